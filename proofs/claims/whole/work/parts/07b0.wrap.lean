def rmL_addFeature : Room := { frames := 8, cells := 1, slots := 6, locals := 144 }
set_option maxHeartbeats 4000000 in
set_option maxRecDepth 100000 in
theorem kL_addFeature (l : Launch) (hl0 : l.stackTraces = false) (G : GT) (q : Nat → Nat) (qo : Nat) (C : St) (o : Nat → Int64) (sz : Nat) (x1 : Int32) (x2 : Int32) (out : Int32 × (St × (Nat → Int64))) (h : pL_addFeature C o x1 x2 = some out) : Met l yL_addFeature wsL_addFeature rmL_addFeature (va_Pc [.ref (q 0), .int x1, .int x2, .ref qo] (xP G (XW G q qo (C, o)) sz)) (va_Qi (fun r u => (r, u) = out) (fun u t => va_P G.1 vwCl (XW G q qo u) t.heap) (va_A (XW G q qo (C, o)) sz)) 1 6 (va_A (XW G q qo (C, o)) sz) := by
  refine va_MetW (cc := cL_addFeature) (maxL := 5) (ret := (some .int)) (by decide) rfl ?_
  intro p e s m args below meth c s₁ B hml hv
  obtain ⟨rfl, ⟨hsz, hP, hK, hD0⟩, hE⟩ := hv
  have htab := vx_table (x := yL_addFeature) B (atoms_spec (ws := wsL_addFeature) B.pre _ List.mem_cons_self)
  have bx := bx_of B hml
  subst hsz
  have hD := hD0.self (sz := s.heap.size)
  generalize hAe : va_A (XW G q qo (C, o)) s.heap.size = A at hD hE ⊢
  have hA : ∀ q : Nat, s.heap.size ≤ q → A q := fun q h => by rw [← hAe]; exact Or.inr h
  have hS : va_S A s.heap s.heap [] := va_S.rf
  have hP : va_P G.1 vwCl ([] ++ (CW G q C ++ OW G qo o)) s.heap := hP
  have hD : va_D A ([] ++ (CW G q C ++ OW G qo o)) := hD
  obtain ⟨hx, hb, hr, hts, hown, hml, hlocks⟩ := id bx
  have hl := lv_entry ([.ref (q 0), .int x1, .int x2, .ref qo]) (n := 5) (Nat.le_of_ble_eq_true rfl)
  rw [lg_entry_eq]
  generalize (lg_sl ([.ref (q 0), .int x1, .int x2, .ref qo]) ++ List.replicate (5 - (lg_sl ([.ref (q 0), .int x1, .int x2, .ref qo])).length) Slot.unset).toArray = ls at hl ⊢
  have hl : lv_has ls 5 [(0, .ref (q 0)), (1, .int x1), (2, .int x2), (3, .ref qo)] := hl
  unfold pL_addFeature at h
  rcases hc : pX6_addFeature C x1 x2 with _ | (⟨ek, eC⟩ | r)
  · rw [hc] at h; cases h
  · rw [hc] at h
    by_cases h0 : ek = 1
    · subst h0
      have h : some ((1 : Int32), (eC, o)) = some out := h
      refine lv_aload_n hx hb dL_addFeature_0 rfl (lv_at hl 3 rfl) ?_
      refine lv_iconst (v := 0) hx hb dL_addFeature_1 (by decide) ?_
      refine lv_aload_n hx hb dL_addFeature_2 rfl (lv_at hl 0 rfl) ?_
      refine lv_iload_n hx hb dL_addFeature_3 rfl (lv_at hl 1 rfl) ?_
      refine lv_iload_n hx hb dL_addFeature_4 rfl (lv_at hl 2 rfl) ?_
      refine x_call (Wd := CW G q) (e' := (1, eC)) [] (OW G qo o) (vx_runV (As := [.int x1, .int x2]) (rest := [.int 0, .ref qo]) ⟨hx, hb, hml, hown, hts⟩ (xX6_addFeature l hl0 G q C _ x1 x2 (1, eC) hc) (cwV 2 hts gL_addFeature_X6_addFeature rfl rfl rfl (by decide +kernel) ⟨Nat.le_of_ble_eq_true rfl, Nat.le_of_ble_eq_true rfl⟩) (xV (fr_mid [] (OW G qo o) hP) (fr_midD [] (OW G qo o) hD) hS hK hA hE 7 0 rfl rfl) rfl rfl hl.1 rfl (lv_room (Nat.le_of_ble_eq_true rfl)) dL_addFeature_5 ⟨Nat.le_of_ble_eq_true rfl, Nat.le_of_ble_eq_true rfl⟩) hP hD hS hA (fun _ => rfl) (fun ce q9 H locs hP hD hS hce hcv hcl => ?_)
      refine vx_catch hown [] (⟨0, 10, 13, 13⟩ : ExceptionTableEntry) [(⟨0, 10, 17, 15⟩ : ExceptionTableEntry), (⟨0, 10, 21, 17⟩ : ExceptionTableEntry)] (htab.trans rfl) (fun _ hz => absurd hz List.not_mem_nil) (by decide) (by decide) (w_mem hts 1 rfl) (hK.2.at 60 rfl) hce hcv hcl ?_
      refine lv_astore (lv' := [(4, .ref q9), (0, .ref (q 0)), (1, .int x1), (2, .int x2), (3, .ref qo)]) hx hb dL_addFeature_13 hl (by decide) rfl (fun ls hl => ?_)
      refine lv_iconst (v := 1) hx hb dL_addFeature_15 (by decide) ?_
      exact W.iret (v := 1) hx hb hr (fun t ht _ => ⟨⟨1, (eC, o), rfl, Option.some.inj h, by show va_P G.1 vwCl (XW G q qo (eC, o)) t.heap; rw [ht]; exact hP⟩, hS.F ht⟩) hS.2.2 dL_addFeature_16 hlocks
    by_cases h1 : ek = 2
    · subst h1
      have h : some ((2 : Int32), (eC, o)) = some out := h
      refine lv_aload_n hx hb dL_addFeature_0 rfl (lv_at hl 3 rfl) ?_
      refine lv_iconst (v := 0) hx hb dL_addFeature_1 (by decide) ?_
      refine lv_aload_n hx hb dL_addFeature_2 rfl (lv_at hl 0 rfl) ?_
      refine lv_iload_n hx hb dL_addFeature_3 rfl (lv_at hl 1 rfl) ?_
      refine lv_iload_n hx hb dL_addFeature_4 rfl (lv_at hl 2 rfl) ?_
      refine x_call (Wd := CW G q) (e' := (2, eC)) [] (OW G qo o) (vx_runV (As := [.int x1, .int x2]) (rest := [.int 0, .ref qo]) ⟨hx, hb, hml, hown, hts⟩ (xX6_addFeature l hl0 G q C _ x1 x2 (2, eC) hc) (cwV 2 hts gL_addFeature_X6_addFeature rfl rfl rfl (by decide +kernel) ⟨Nat.le_of_ble_eq_true rfl, Nat.le_of_ble_eq_true rfl⟩) (xV (fr_mid [] (OW G qo o) hP) (fr_midD [] (OW G qo o) hD) hS hK hA hE 7 0 rfl rfl) rfl rfl hl.1 rfl (lv_room (Nat.le_of_ble_eq_true rfl)) dL_addFeature_5 ⟨Nat.le_of_ble_eq_true rfl, Nat.le_of_ble_eq_true rfl⟩) hP hD hS hA (fun _ => rfl) (fun ce q9 H locs hP hD hS hce hcv hcl => ?_)
      refine vx_catch hown [(⟨0, 10, 13, 13⟩ : ExceptionTableEntry)] (⟨0, 10, 17, 15⟩ : ExceptionTableEntry) [(⟨0, 10, 21, 17⟩ : ExceptionTableEntry)] (htab.trans rfl) (List.forall_mem_cons.mpr ⟨Or.inr ⟨by decide, "java/lang/IndexOutOfBoundsException", (w_mem hts 1 rfl), hE.2.2.2 2 1 ⟨by decide, by decide⟩ ⟨by decide, by decide⟩ (by decide)⟩, fun _ hz => absurd hz List.not_mem_nil⟩) (by decide) (by decide) (w_mem hK.2.all 66 rfl) (hK.2.at 61 rfl) hce hcv hcl ?_
      refine lv_astore (lv' := [(4, .ref q9), (0, .ref (q 0)), (1, .int x1), (2, .int x2), (3, .ref qo)]) hx hb dL_addFeature_17 hl (by decide) rfl (fun ls hl => ?_)
      refine lv_iconst (v := 2) hx hb dL_addFeature_19 (by decide) ?_
      exact W.iret (v := 2) hx hb hr (fun t ht _ => ⟨⟨2, (eC, o), rfl, Option.some.inj h, by show va_P G.1 vwCl (XW G q qo (eC, o)) t.heap; rw [ht]; exact hP⟩, hS.F ht⟩) hS.2.2 dL_addFeature_20 hlocks
    by_cases h2 : ek = 3
    · subst h2
      have h : some ((3 : Int32), (eC, o)) = some out := h
      refine lv_aload_n hx hb dL_addFeature_0 rfl (lv_at hl 3 rfl) ?_
      refine lv_iconst (v := 0) hx hb dL_addFeature_1 (by decide) ?_
      refine lv_aload_n hx hb dL_addFeature_2 rfl (lv_at hl 0 rfl) ?_
      refine lv_iload_n hx hb dL_addFeature_3 rfl (lv_at hl 1 rfl) ?_
      refine lv_iload_n hx hb dL_addFeature_4 rfl (lv_at hl 2 rfl) ?_
      refine x_call (Wd := CW G q) (e' := (3, eC)) [] (OW G qo o) (vx_runV (As := [.int x1, .int x2]) (rest := [.int 0, .ref qo]) ⟨hx, hb, hml, hown, hts⟩ (xX6_addFeature l hl0 G q C _ x1 x2 (3, eC) hc) (cwV 2 hts gL_addFeature_X6_addFeature rfl rfl rfl (by decide +kernel) ⟨Nat.le_of_ble_eq_true rfl, Nat.le_of_ble_eq_true rfl⟩) (xV (fr_mid [] (OW G qo o) hP) (fr_midD [] (OW G qo o) hD) hS hK hA hE 7 0 rfl rfl) rfl rfl hl.1 rfl (lv_room (Nat.le_of_ble_eq_true rfl)) dL_addFeature_5 ⟨Nat.le_of_ble_eq_true rfl, Nat.le_of_ble_eq_true rfl⟩) hP hD hS hA (fun _ => rfl) (fun ce q9 H locs hP hD hS hce hcv hcl => ?_)
      refine vx_catch hown [(⟨0, 10, 13, 13⟩ : ExceptionTableEntry), (⟨0, 10, 17, 15⟩ : ExceptionTableEntry)] (⟨0, 10, 21, 17⟩ : ExceptionTableEntry) [] (htab.trans rfl) (List.forall_mem_cons.mpr ⟨Or.inr ⟨by decide, "java/lang/IndexOutOfBoundsException", (w_mem hts 1 rfl), hE.2.2.2 3 1 ⟨by decide, by decide⟩ ⟨by decide, by decide⟩ (by decide)⟩, List.forall_mem_cons.mpr ⟨Or.inr ⟨by decide, "java/lang/IllegalArgumentException", (w_mem hK.2.all 66 rfl), hE.2.2.2 3 2 ⟨by decide, by decide⟩ ⟨by decide, by decide⟩ (by decide)⟩, fun _ hz => absurd hz List.not_mem_nil⟩⟩) (by decide) (by decide) (w_mem hK.2.all 67 rfl) (hK.2.at 62 rfl) hce hcv hcl ?_
      refine lv_astore (lv' := [(4, .ref q9), (0, .ref (q 0)), (1, .int x1), (2, .int x2), (3, .ref qo)]) hx hb dL_addFeature_21 hl (by decide) rfl (fun ls hl => ?_)
      refine lv_iconst (v := 3) hx hb dL_addFeature_23 (by decide) ?_
      exact W.iret (v := 3) hx hb hr (fun t ht _ => ⟨⟨3, (eC, o), rfl, Option.some.inj h, by show va_P G.1 vwCl (XW G q qo (eC, o)) t.heap; rw [ht]; exact hP⟩, hS.F ht⟩) hS.2.2 dL_addFeature_24 hlocks
    · exact absurd h (by simp [lresW, cdL_addFeature, h0, h1, h2])
  · rw [hc] at h
    refine lv_aload_n hx hb dL_addFeature_0 rfl (lv_at hl 3 rfl) ?_
    refine lv_iconst (v := 0) hx hb dL_addFeature_1 (by decide) ?_
    refine lv_aload_n hx hb dL_addFeature_2 rfl (lv_at hl 0 rfl) ?_
    refine lv_iload_n hx hb dL_addFeature_3 rfl (lv_at hl 1 rfl) ?_
    refine lv_iload_n hx hb dL_addFeature_4 rfl (lv_at hl 2 rfl) ?_
    refine wf_i (Wd := CW G q) [] (OW G qo o) (va_runV (As := [.int x1, .int x2]) (rest := [.int 0, .ref qo]) ⟨hx, hb, hml, hown, hts⟩ (kX6_addFeature l G q C _ x1 x2 r hc) (cwV 2 hts gL_addFeature_X6_addFeature rfl rfl rfl (by decide +kernel) ⟨Nat.le_of_ble_eq_true rfl, Nat.le_of_ble_eq_true rfl⟩) (wrV (fr_mid [] (OW G qo o) hP) (fr_midD [] (OW G qo o) hD) hK 7 0 rfl rfl) rfl rfl hl.1 rfl (lv_room (Nat.le_of_ble_eq_true rfl)) dL_addFeature_5 ⟨Nat.zero_le _, Nat.zero_le _⟩) hP hD hS hA (fun _ => rfl) (fun H locs hP hD hS => ?_)
    refine lv_i2l (v := Int32.toInt64 r.1) hx hb dL_addFeature_8 rfl ?_
    refine va_last (D := G.1) hx hb hK.1 hP hD hS 20 3 rfl rfl (by unfold vp_in; decide) dL_addFeature_9 (fun H locs hP hD hS => ?_)
    have hP : va_P G.1 vwCl (XW G q qo (r.2, vp_updL o 0 (Int32.toInt64 r.1))) H := hP
    refine lv_goto (tgt := 25) hx hb dL_addFeature_10 (by decide) ?_
    refine lv_iconst (v := 0) hx hb dL_addFeature_25 (by decide) ?_
    refine W.widen (k := 1) (n := 6) (Nat.le_of_ble_eq_true rfl) (Nat.le_of_ble_eq_true rfl) ?_
    have h : some ((0 : Int32), (r.2, vp_updL o 0 (Int32.toInt64 r.1))) = some out := h
    exact W.iret (v := 0) hx hb hr (fun t ht _ => ⟨⟨0, (r.2, vp_updL o 0 (Int32.toInt64 r.1)), rfl, Option.some.inj h, by show va_P G.1 vwCl (XW G q qo (r.2, vp_updL o 0 (Int32.toInt64 r.1))) t.heap; rw [ht]; exact hP⟩, hS.F ht⟩) hS.2.2 dL_addFeature_26 hlocks

def rmL_setMandatory : Room := { frames := 19, cells := 1, slots := 6, locals := 478 }
set_option maxHeartbeats 4000000 in
set_option maxRecDepth 100000 in
theorem kL_setMandatory (l : Launch) (hl0 : l.stackTraces = false) (G : GT) (q : Nat → Nat) (qo : Nat) (C : St) (o : Nat → Int64) (sz : Nat) (x1 : Int32) (x2 : Int32) (out : Int32 × (St × (Nat → Int64))) (h : pL_setMandatory C o x1 x2 = some out) : Met l yL_setMandatory wsL_setMandatory rmL_setMandatory (va_Pc [.ref (q 0), .int x1, .int x2, .ref qo] (xP G (XW G q qo (C, o)) sz)) (va_Qi (fun r u => (r, u) = out) (fun u t => va_P G.1 vwCl (XW G q qo u) t.heap) (va_A (XW G q qo (C, o)) sz)) 1 6 (va_A (XW G q qo (C, o)) sz) := by
  refine va_MetW (cc := cL_setMandatory) (maxL := 5) (ret := (some .int)) (by decide) rfl ?_
  intro p e s m args below meth c s₁ B hml hv
  obtain ⟨rfl, ⟨hsz, hP, hK, hD0⟩, hE⟩ := hv
  have htab := vx_table (x := yL_setMandatory) B (atoms_spec (ws := wsL_setMandatory) B.pre _ List.mem_cons_self)
  have bx := bx_of B hml
  subst hsz
  have hD := hD0.self (sz := s.heap.size)
  generalize hAe : va_A (XW G q qo (C, o)) s.heap.size = A at hD hE ⊢
  have hA : ∀ q : Nat, s.heap.size ≤ q → A q := fun q h => by rw [← hAe]; exact Or.inr h
  have hS : va_S A s.heap s.heap [] := va_S.rf
  have hP : va_P G.1 vwCl ([] ++ (CW G q C ++ OW G qo o)) s.heap := hP
  have hD : va_D A ([] ++ (CW G q C ++ OW G qo o)) := hD
  obtain ⟨hx, hb, hr, hts, hown, hml, hlocks⟩ := id bx
  have hl := lv_entry ([.ref (q 0), .int x1, .int x2, .ref qo]) (n := 5) (Nat.le_of_ble_eq_true rfl)
  rw [lg_entry_eq]
  generalize (lg_sl ([.ref (q 0), .int x1, .int x2, .ref qo]) ++ List.replicate (5 - (lg_sl ([.ref (q 0), .int x1, .int x2, .ref qo])).length) Slot.unset).toArray = ls at hl ⊢
  have hl : lv_has ls 5 [(0, .ref (q 0)), (1, .int x1), (2, .int x2), (3, .ref qo)] := hl
  unfold pL_setMandatory at h
  rcases hc : pX6_setMandatory C x1 x2 with _ | (⟨ek, eC⟩ | r)
  · rw [hc] at h; cases h
  · rw [hc] at h
    by_cases h0 : ek = 1
    · subst h0
      have h : some ((1 : Int32), (eC, o)) = some out := h
      refine lv_aload_n hx hb dL_setMandatory_0 rfl (lv_at hl 3 rfl) ?_
      refine lv_iconst (v := 0) hx hb dL_setMandatory_1 (by decide) ?_
      refine lv_aload_n hx hb dL_setMandatory_2 rfl (lv_at hl 0 rfl) ?_
      refine lv_iload_n hx hb dL_setMandatory_3 rfl (lv_at hl 1 rfl) ?_
      refine lv_iload_n hx hb dL_setMandatory_4 rfl (lv_at hl 2 rfl) ?_
      refine x_call (Wd := CW G q) (e' := (1, eC)) [] (OW G qo o) (vx_runV (As := [.int x1, .int x2]) (rest := [.int 0, .ref qo]) ⟨hx, hb, hml, hown, hts⟩ (xX6_setMandatory l hl0 G q C _ x1 x2 (1, eC) hc) (cwV 2 hts gL_setMandatory_X6_setMandatory rfl rfl rfl (by decide +kernel) ⟨Nat.le_of_ble_eq_true rfl, Nat.le_of_ble_eq_true rfl⟩) (xV (fr_mid [] (OW G qo o) hP) (fr_midD [] (OW G qo o) hD) hS hK hA hE 7 0 rfl rfl) rfl rfl hl.1 rfl (lv_room (Nat.le_of_ble_eq_true rfl)) dL_setMandatory_5 ⟨Nat.le_of_ble_eq_true rfl, Nat.le_of_ble_eq_true rfl⟩) hP hD hS hA (fun _ => rfl) (fun ce q9 H locs hP hD hS hce hcv hcl => ?_)
      refine vx_catch hown [] (⟨0, 17, 20, 13⟩ : ExceptionTableEntry) [(⟨0, 17, 24, 15⟩ : ExceptionTableEntry), (⟨0, 17, 28, 23⟩ : ExceptionTableEntry)] (htab.trans rfl) (fun _ hz => absurd hz List.not_mem_nil) (by decide) (by decide) (w_mem hts 1 rfl) (hK.2.at 60 rfl) hce hcv hcl ?_
      refine lv_astore (lv' := [(4, .ref q9), (0, .ref (q 0)), (1, .int x1), (2, .int x2), (3, .ref qo)]) hx hb dL_setMandatory_20 hl (by decide) rfl (fun ls hl => ?_)
      refine lv_iconst (v := 1) hx hb dL_setMandatory_22 (by decide) ?_
      exact W.iret (v := 1) hx hb hr (fun t ht _ => ⟨⟨1, (eC, o), rfl, Option.some.inj h, by show va_P G.1 vwCl (XW G q qo (eC, o)) t.heap; rw [ht]; exact hP⟩, hS.F ht⟩) hS.2.2 dL_setMandatory_23 hlocks
    by_cases h1 : ek = 2
    · subst h1
      have h : some ((2 : Int32), (eC, o)) = some out := h
      refine lv_aload_n hx hb dL_setMandatory_0 rfl (lv_at hl 3 rfl) ?_
      refine lv_iconst (v := 0) hx hb dL_setMandatory_1 (by decide) ?_
      refine lv_aload_n hx hb dL_setMandatory_2 rfl (lv_at hl 0 rfl) ?_
      refine lv_iload_n hx hb dL_setMandatory_3 rfl (lv_at hl 1 rfl) ?_
      refine lv_iload_n hx hb dL_setMandatory_4 rfl (lv_at hl 2 rfl) ?_
      refine x_call (Wd := CW G q) (e' := (2, eC)) [] (OW G qo o) (vx_runV (As := [.int x1, .int x2]) (rest := [.int 0, .ref qo]) ⟨hx, hb, hml, hown, hts⟩ (xX6_setMandatory l hl0 G q C _ x1 x2 (2, eC) hc) (cwV 2 hts gL_setMandatory_X6_setMandatory rfl rfl rfl (by decide +kernel) ⟨Nat.le_of_ble_eq_true rfl, Nat.le_of_ble_eq_true rfl⟩) (xV (fr_mid [] (OW G qo o) hP) (fr_midD [] (OW G qo o) hD) hS hK hA hE 7 0 rfl rfl) rfl rfl hl.1 rfl (lv_room (Nat.le_of_ble_eq_true rfl)) dL_setMandatory_5 ⟨Nat.le_of_ble_eq_true rfl, Nat.le_of_ble_eq_true rfl⟩) hP hD hS hA (fun _ => rfl) (fun ce q9 H locs hP hD hS hce hcv hcl => ?_)
      refine vx_catch hown [(⟨0, 17, 20, 13⟩ : ExceptionTableEntry)] (⟨0, 17, 24, 15⟩ : ExceptionTableEntry) [(⟨0, 17, 28, 23⟩ : ExceptionTableEntry)] (htab.trans rfl) (List.forall_mem_cons.mpr ⟨Or.inr ⟨by decide, "java/lang/IndexOutOfBoundsException", (w_mem hts 1 rfl), hE.2.2.2 2 1 ⟨by decide, by decide⟩ ⟨by decide, by decide⟩ (by decide)⟩, fun _ hz => absurd hz List.not_mem_nil⟩) (by decide) (by decide) (w_mem hK.2.all 66 rfl) (hK.2.at 61 rfl) hce hcv hcl ?_
      refine lv_astore (lv' := [(4, .ref q9), (0, .ref (q 0)), (1, .int x1), (2, .int x2), (3, .ref qo)]) hx hb dL_setMandatory_24 hl (by decide) rfl (fun ls hl => ?_)
      refine lv_iconst (v := 2) hx hb dL_setMandatory_26 (by decide) ?_
      exact W.iret (v := 2) hx hb hr (fun t ht _ => ⟨⟨2, (eC, o), rfl, Option.some.inj h, by show va_P G.1 vwCl (XW G q qo (eC, o)) t.heap; rw [ht]; exact hP⟩, hS.F ht⟩) hS.2.2 dL_setMandatory_27 hlocks
    by_cases h2 : ek = 4
    · subst h2
      have h : some ((3 : Int32), (eC, o)) = some out := h
      refine lv_aload_n hx hb dL_setMandatory_0 rfl (lv_at hl 3 rfl) ?_
      refine lv_iconst (v := 0) hx hb dL_setMandatory_1 (by decide) ?_
      refine lv_aload_n hx hb dL_setMandatory_2 rfl (lv_at hl 0 rfl) ?_
      refine lv_iload_n hx hb dL_setMandatory_3 rfl (lv_at hl 1 rfl) ?_
      refine lv_iload_n hx hb dL_setMandatory_4 rfl (lv_at hl 2 rfl) ?_
      refine x_call (Wd := CW G q) (e' := (4, eC)) [] (OW G qo o) (vx_runV (As := [.int x1, .int x2]) (rest := [.int 0, .ref qo]) ⟨hx, hb, hml, hown, hts⟩ (xX6_setMandatory l hl0 G q C _ x1 x2 (4, eC) hc) (cwV 2 hts gL_setMandatory_X6_setMandatory rfl rfl rfl (by decide +kernel) ⟨Nat.le_of_ble_eq_true rfl, Nat.le_of_ble_eq_true rfl⟩) (xV (fr_mid [] (OW G qo o) hP) (fr_midD [] (OW G qo o) hD) hS hK hA hE 7 0 rfl rfl) rfl rfl hl.1 rfl (lv_room (Nat.le_of_ble_eq_true rfl)) dL_setMandatory_5 ⟨Nat.le_of_ble_eq_true rfl, Nat.le_of_ble_eq_true rfl⟩) hP hD hS hA (fun _ => rfl) (fun ce q9 H locs hP hD hS hce hcv hcl => ?_)
      refine vx_catch hown [(⟨0, 17, 20, 13⟩ : ExceptionTableEntry), (⟨0, 17, 24, 15⟩ : ExceptionTableEntry)] (⟨0, 17, 28, 23⟩ : ExceptionTableEntry) [] (htab.trans rfl) (List.forall_mem_cons.mpr ⟨Or.inr ⟨by decide, "java/lang/IndexOutOfBoundsException", (w_mem hts 1 rfl), hE.2.2.2 4 1 ⟨by decide, by decide⟩ ⟨by decide, by decide⟩ (by decide)⟩, List.forall_mem_cons.mpr ⟨Or.inr ⟨by decide, "java/lang/IllegalArgumentException", (w_mem hK.2.all 66 rfl), hE.2.2.2 4 2 ⟨by decide, by decide⟩ ⟨by decide, by decide⟩ (by decide)⟩, fun _ hz => absurd hz List.not_mem_nil⟩⟩) (by decide) (by decide) (w_mem hK.2.all 68 rfl) (hK.2.at 63 rfl) hce hcv hcl ?_
      refine lv_astore (lv' := [(4, .ref q9), (0, .ref (q 0)), (1, .int x1), (2, .int x2), (3, .ref qo)]) hx hb dL_setMandatory_28 hl (by decide) rfl (fun ls hl => ?_)
      refine lv_iconst (v := 3) hx hb dL_setMandatory_30 (by decide) ?_
      exact W.iret (v := 3) hx hb hr (fun t ht _ => ⟨⟨3, (eC, o), rfl, Option.some.inj h, by show va_P G.1 vwCl (XW G q qo (eC, o)) t.heap; rw [ht]; exact hP⟩, hS.F ht⟩) hS.2.2 dL_setMandatory_31 hlocks
    · exact absurd h (by simp [lresW, cdL_setMandatory, h0, h1, h2])
  · rw [hc] at h
    refine lv_aload_n hx hb dL_setMandatory_0 rfl (lv_at hl 3 rfl) ?_
    refine lv_iconst (v := 0) hx hb dL_setMandatory_1 (by decide) ?_
    refine lv_aload_n hx hb dL_setMandatory_2 rfl (lv_at hl 0 rfl) ?_
    refine lv_iload_n hx hb dL_setMandatory_3 rfl (lv_at hl 1 rfl) ?_
    refine lv_iload_n hx hb dL_setMandatory_4 rfl (lv_at hl 2 rfl) ?_
    refine wf_i (Wd := CW G q) [] (OW G qo o) (va_runV (As := [.int x1, .int x2]) (rest := [.int 0, .ref qo]) ⟨hx, hb, hml, hown, hts⟩ (kX6_setMandatory l G q C _ x1 x2 r hc) (cwV 2 hts gL_setMandatory_X6_setMandatory rfl rfl rfl (by decide +kernel) ⟨Nat.le_of_ble_eq_true rfl, Nat.le_of_ble_eq_true rfl⟩) (wrV (fr_mid [] (OW G qo o) hP) (fr_midD [] (OW G qo o) hD) hK 7 0 rfl rfl) rfl rfl hl.1 rfl (lv_room (Nat.le_of_ble_eq_true rfl)) dL_setMandatory_5 ⟨Nat.zero_le _, Nat.zero_le _⟩) hP hD hS hA (fun _ => rfl) (fun H locs hP hD hS => ?_)
    have h : some ((0 : Int32), (r.2, vp_updL o 0 (if r.1 = 0 then (0 : Int64) else 1))) = some out := h
    refine lv_if_eq (tgt := 15) hx hb dL_setMandatory_8 (by decide) (fun c0 => ?_) (fun c0 => ?_)
    · rw [if_pos c0] at h
      refine lv_lconst (v := 0) hx hb dL_setMandatory_15 (by decide) ?_
      refine va_last (D := G.1) hx hb hK.1 hP hD hS 20 3 rfl rfl (by unfold vp_in; decide) dL_setMandatory_16 (fun H locs hP hD hS => ?_)
      have hP : va_P G.1 vwCl (XW G q qo (r.2, vp_updL o 0 0)) H := hP
      refine lv_goto (tgt := 32) hx hb dL_setMandatory_17 (by decide) ?_
      refine lv_iconst (v := 0) hx hb dL_setMandatory_32 (by decide) ?_
      refine W.widen (k := 1) (n := 6) (Nat.le_of_ble_eq_true rfl) (Nat.le_of_ble_eq_true rfl) ?_
      have h : some ((0 : Int32), (r.2, vp_updL o 0 0)) = some out := h
      exact W.iret (v := 0) hx hb hr (fun t ht _ => ⟨⟨0, (r.2, vp_updL o 0 0), rfl, Option.some.inj h, by show va_P G.1 vwCl (XW G q qo (r.2, vp_updL o 0 0)) t.heap; rw [ht]; exact hP⟩, hS.F ht⟩) hS.2.2 dL_setMandatory_33 hlocks
    · rw [if_neg c0] at h
      refine lv_lconst (v := 1) hx hb dL_setMandatory_11 (by decide) ?_
      refine lv_goto (tgt := 16) hx hb dL_setMandatory_12 (by decide) ?_
      refine va_last (D := G.1) hx hb hK.1 hP hD hS 20 3 rfl rfl (by unfold vp_in; decide) dL_setMandatory_16 (fun H locs hP hD hS => ?_)
      have hP : va_P G.1 vwCl (XW G q qo (r.2, vp_updL o 0 1)) H := hP
      refine lv_goto (tgt := 32) hx hb dL_setMandatory_17 (by decide) ?_
      refine lv_iconst (v := 0) hx hb dL_setMandatory_32 (by decide) ?_
      refine W.widen (k := 1) (n := 6) (Nat.le_of_ble_eq_true rfl) (Nat.le_of_ble_eq_true rfl) ?_
      have h : some ((0 : Int32), (r.2, vp_updL o 0 1)) = some out := h
      exact W.iret (v := 0) hx hb hr (fun t ht _ => ⟨⟨0, (r.2, vp_updL o 0 1), rfl, Option.some.inj h, by show va_P G.1 vwCl (XW G q qo (r.2, vp_updL o 0 1)) t.heap; rw [ht]; exact hP⟩, hS.F ht⟩) hS.2.2 dL_setMandatory_33 hlocks

def rmL_setGroup : Room := { frames := 19, cells := 1, slots := 6, locals := 479 }
set_option maxHeartbeats 4000000 in
set_option maxRecDepth 100000 in
theorem kL_setGroup (l : Launch) (hl0 : l.stackTraces = false) (G : GT) (q : Nat → Nat) (qo : Nat) (C : St) (o : Nat → Int64) (sz : Nat) (x1 : Int32) (x2 : Int32) (x3 : Int32) (out : Int32 × (St × (Nat → Int64))) (h : pL_setGroup C o x1 x2 x3 = some out) : Met l yL_setGroup wsL_setGroup rmL_setGroup (va_Pc [.ref (q 0), .int x1, .int x2, .int x3, .ref qo] (xP G (XW G q qo (C, o)) sz)) (va_Qi (fun r u => (r, u) = out) (fun u t => va_P G.1 vwCl (XW G q qo u) t.heap) (va_A (XW G q qo (C, o)) sz)) 1 6 (va_A (XW G q qo (C, o)) sz) := by
  refine va_MetW (cc := cL_setGroup) (maxL := 6) (ret := (some .int)) (by decide) rfl ?_
  intro p e s m args below meth c s₁ B hml hv
  obtain ⟨rfl, ⟨hsz, hP, hK, hD0⟩, hE⟩ := hv
  have htab := vx_table (x := yL_setGroup) B (atoms_spec (ws := wsL_setGroup) B.pre _ List.mem_cons_self)
  have bx := bx_of B hml
  subst hsz
  have hD := hD0.self (sz := s.heap.size)
  generalize hAe : va_A (XW G q qo (C, o)) s.heap.size = A at hD hE ⊢
  have hA : ∀ q : Nat, s.heap.size ≤ q → A q := fun q h => by rw [← hAe]; exact Or.inr h
  have hS : va_S A s.heap s.heap [] := va_S.rf
  have hP : va_P G.1 vwCl ([] ++ (CW G q C ++ OW G qo o)) s.heap := hP
  have hD : va_D A ([] ++ (CW G q C ++ OW G qo o)) := hD
  obtain ⟨hx, hb, hr, hts, hown, hml, hlocks⟩ := id bx
  have hl := lv_entry ([.ref (q 0), .int x1, .int x2, .int x3, .ref qo]) (n := 6) (Nat.le_of_ble_eq_true rfl)
  rw [lg_entry_eq]
  generalize (lg_sl ([.ref (q 0), .int x1, .int x2, .int x3, .ref qo]) ++ List.replicate (6 - (lg_sl ([.ref (q 0), .int x1, .int x2, .int x3, .ref qo])).length) Slot.unset).toArray = ls at hl ⊢
  have hl : lv_has ls 6 [(0, .ref (q 0)), (1, .int x1), (2, .int x2), (3, .int x3), (4, .ref qo)] := hl
  unfold pL_setGroup at h
  rcases hc : pX6_setGroup C x1 x2 x3 with _ | (⟨ek, eC⟩ | r)
  · rw [hc] at h; cases h
  · rw [hc] at h
    by_cases h0 : ek = 1
    · subst h0
      have h : some ((1 : Int32), (eC, o)) = some out := h
      refine lv_aload hx hb dL_setGroup_0 (lv_at hl 4 rfl) ?_
      refine lv_iconst (v := 0) hx hb dL_setGroup_2 (by decide) ?_
      refine lv_aload_n hx hb dL_setGroup_3 rfl (lv_at hl 0 rfl) ?_
      refine lv_iload_n hx hb dL_setGroup_4 rfl (lv_at hl 1 rfl) ?_
      refine lv_iload_n hx hb dL_setGroup_5 rfl (lv_at hl 2 rfl) ?_
      refine lv_iload_n hx hb dL_setGroup_6 rfl (lv_at hl 3 rfl) ?_
      refine x_call (Wd := CW G q) (e' := (1, eC)) [] (OW G qo o) (vx_runV (As := [.int x1, .int x2, .int x3]) (rest := [.int 0, .ref qo]) ⟨hx, hb, hml, hown, hts⟩ (xX6_setGroup l hl0 G q C _ x1 x2 x3 (1, eC) hc) (cwV 3 hts gL_setGroup_X6_setGroup rfl rfl rfl (by decide +kernel) ⟨Nat.le_of_ble_eq_true rfl, Nat.le_of_ble_eq_true rfl⟩) (xV (fr_mid [] (OW G qo o) hP) (fr_midD [] (OW G qo o) hD) hS hK hA hE 7 0 rfl rfl) rfl rfl hl.1 rfl (lv_room (Nat.le_of_ble_eq_true rfl)) dL_setGroup_7 ⟨Nat.le_of_ble_eq_true rfl, Nat.le_of_ble_eq_true rfl⟩) hP hD hS hA (fun _ => rfl) (fun ce q9 H locs hP hD hS hce hcv hcl => ?_)
      refine vx_catch hown [] (⟨0, 12, 15, 13⟩ : ExceptionTableEntry) [(⟨0, 12, 19, 15⟩ : ExceptionTableEntry), (⟨0, 12, 23, 23⟩ : ExceptionTableEntry)] (htab.trans rfl) (fun _ hz => absurd hz List.not_mem_nil) (by decide) (by decide) (w_mem hts 1 rfl) (hK.2.at 60 rfl) hce hcv hcl ?_
      refine lv_astore (lv' := [(5, .ref q9), (0, .ref (q 0)), (1, .int x1), (2, .int x2), (3, .int x3), (4, .ref qo)]) hx hb dL_setGroup_15 hl (by decide) rfl (fun ls hl => ?_)
      refine lv_iconst (v := 1) hx hb dL_setGroup_17 (by decide) ?_
      exact W.iret (v := 1) hx hb hr (fun t ht _ => ⟨⟨1, (eC, o), rfl, Option.some.inj h, by show va_P G.1 vwCl (XW G q qo (eC, o)) t.heap; rw [ht]; exact hP⟩, hS.F ht⟩) hS.2.2 dL_setGroup_18 hlocks
    by_cases h1 : ek = 2
    · subst h1
      have h : some ((2 : Int32), (eC, o)) = some out := h
      refine lv_aload hx hb dL_setGroup_0 (lv_at hl 4 rfl) ?_
      refine lv_iconst (v := 0) hx hb dL_setGroup_2 (by decide) ?_
      refine lv_aload_n hx hb dL_setGroup_3 rfl (lv_at hl 0 rfl) ?_
      refine lv_iload_n hx hb dL_setGroup_4 rfl (lv_at hl 1 rfl) ?_
      refine lv_iload_n hx hb dL_setGroup_5 rfl (lv_at hl 2 rfl) ?_
      refine lv_iload_n hx hb dL_setGroup_6 rfl (lv_at hl 3 rfl) ?_
      refine x_call (Wd := CW G q) (e' := (2, eC)) [] (OW G qo o) (vx_runV (As := [.int x1, .int x2, .int x3]) (rest := [.int 0, .ref qo]) ⟨hx, hb, hml, hown, hts⟩ (xX6_setGroup l hl0 G q C _ x1 x2 x3 (2, eC) hc) (cwV 3 hts gL_setGroup_X6_setGroup rfl rfl rfl (by decide +kernel) ⟨Nat.le_of_ble_eq_true rfl, Nat.le_of_ble_eq_true rfl⟩) (xV (fr_mid [] (OW G qo o) hP) (fr_midD [] (OW G qo o) hD) hS hK hA hE 7 0 rfl rfl) rfl rfl hl.1 rfl (lv_room (Nat.le_of_ble_eq_true rfl)) dL_setGroup_7 ⟨Nat.le_of_ble_eq_true rfl, Nat.le_of_ble_eq_true rfl⟩) hP hD hS hA (fun _ => rfl) (fun ce q9 H locs hP hD hS hce hcv hcl => ?_)
      refine vx_catch hown [(⟨0, 12, 15, 13⟩ : ExceptionTableEntry)] (⟨0, 12, 19, 15⟩ : ExceptionTableEntry) [(⟨0, 12, 23, 23⟩ : ExceptionTableEntry)] (htab.trans rfl) (List.forall_mem_cons.mpr ⟨Or.inr ⟨by decide, "java/lang/IndexOutOfBoundsException", (w_mem hts 1 rfl), hE.2.2.2 2 1 ⟨by decide, by decide⟩ ⟨by decide, by decide⟩ (by decide)⟩, fun _ hz => absurd hz List.not_mem_nil⟩) (by decide) (by decide) (w_mem hK.2.all 66 rfl) (hK.2.at 61 rfl) hce hcv hcl ?_
      refine lv_astore (lv' := [(5, .ref q9), (0, .ref (q 0)), (1, .int x1), (2, .int x2), (3, .int x3), (4, .ref qo)]) hx hb dL_setGroup_19 hl (by decide) rfl (fun ls hl => ?_)
      refine lv_iconst (v := 2) hx hb dL_setGroup_21 (by decide) ?_
      exact W.iret (v := 2) hx hb hr (fun t ht _ => ⟨⟨2, (eC, o), rfl, Option.some.inj h, by show va_P G.1 vwCl (XW G q qo (eC, o)) t.heap; rw [ht]; exact hP⟩, hS.F ht⟩) hS.2.2 dL_setGroup_22 hlocks
    by_cases h2 : ek = 4
    · subst h2
      have h : some ((3 : Int32), (eC, o)) = some out := h
      refine lv_aload hx hb dL_setGroup_0 (lv_at hl 4 rfl) ?_
      refine lv_iconst (v := 0) hx hb dL_setGroup_2 (by decide) ?_
      refine lv_aload_n hx hb dL_setGroup_3 rfl (lv_at hl 0 rfl) ?_
      refine lv_iload_n hx hb dL_setGroup_4 rfl (lv_at hl 1 rfl) ?_
      refine lv_iload_n hx hb dL_setGroup_5 rfl (lv_at hl 2 rfl) ?_
      refine lv_iload_n hx hb dL_setGroup_6 rfl (lv_at hl 3 rfl) ?_
      refine x_call (Wd := CW G q) (e' := (4, eC)) [] (OW G qo o) (vx_runV (As := [.int x1, .int x2, .int x3]) (rest := [.int 0, .ref qo]) ⟨hx, hb, hml, hown, hts⟩ (xX6_setGroup l hl0 G q C _ x1 x2 x3 (4, eC) hc) (cwV 3 hts gL_setGroup_X6_setGroup rfl rfl rfl (by decide +kernel) ⟨Nat.le_of_ble_eq_true rfl, Nat.le_of_ble_eq_true rfl⟩) (xV (fr_mid [] (OW G qo o) hP) (fr_midD [] (OW G qo o) hD) hS hK hA hE 7 0 rfl rfl) rfl rfl hl.1 rfl (lv_room (Nat.le_of_ble_eq_true rfl)) dL_setGroup_7 ⟨Nat.le_of_ble_eq_true rfl, Nat.le_of_ble_eq_true rfl⟩) hP hD hS hA (fun _ => rfl) (fun ce q9 H locs hP hD hS hce hcv hcl => ?_)
      refine vx_catch hown [(⟨0, 12, 15, 13⟩ : ExceptionTableEntry), (⟨0, 12, 19, 15⟩ : ExceptionTableEntry)] (⟨0, 12, 23, 23⟩ : ExceptionTableEntry) [] (htab.trans rfl) (List.forall_mem_cons.mpr ⟨Or.inr ⟨by decide, "java/lang/IndexOutOfBoundsException", (w_mem hts 1 rfl), hE.2.2.2 4 1 ⟨by decide, by decide⟩ ⟨by decide, by decide⟩ (by decide)⟩, List.forall_mem_cons.mpr ⟨Or.inr ⟨by decide, "java/lang/IllegalArgumentException", (w_mem hK.2.all 66 rfl), hE.2.2.2 4 2 ⟨by decide, by decide⟩ ⟨by decide, by decide⟩ (by decide)⟩, fun _ hz => absurd hz List.not_mem_nil⟩⟩) (by decide) (by decide) (w_mem hK.2.all 68 rfl) (hK.2.at 63 rfl) hce hcv hcl ?_
      refine lv_astore (lv' := [(5, .ref q9), (0, .ref (q 0)), (1, .int x1), (2, .int x2), (3, .int x3), (4, .ref qo)]) hx hb dL_setGroup_23 hl (by decide) rfl (fun ls hl => ?_)
      refine lv_iconst (v := 3) hx hb dL_setGroup_25 (by decide) ?_
      exact W.iret (v := 3) hx hb hr (fun t ht _ => ⟨⟨3, (eC, o), rfl, Option.some.inj h, by show va_P G.1 vwCl (XW G q qo (eC, o)) t.heap; rw [ht]; exact hP⟩, hS.F ht⟩) hS.2.2 dL_setGroup_26 hlocks
    · exact absurd h (by simp [lresW, cdL_setGroup, h0, h1, h2])
  · rw [hc] at h
    refine lv_aload hx hb dL_setGroup_0 (lv_at hl 4 rfl) ?_
    refine lv_iconst (v := 0) hx hb dL_setGroup_2 (by decide) ?_
    refine lv_aload_n hx hb dL_setGroup_3 rfl (lv_at hl 0 rfl) ?_
    refine lv_iload_n hx hb dL_setGroup_4 rfl (lv_at hl 1 rfl) ?_
    refine lv_iload_n hx hb dL_setGroup_5 rfl (lv_at hl 2 rfl) ?_
    refine lv_iload_n hx hb dL_setGroup_6 rfl (lv_at hl 3 rfl) ?_
    refine wf_i (Wd := CW G q) [] (OW G qo o) (va_runV (As := [.int x1, .int x2, .int x3]) (rest := [.int 0, .ref qo]) ⟨hx, hb, hml, hown, hts⟩ (kX6_setGroup l G q C _ x1 x2 x3 r hc) (cwV 3 hts gL_setGroup_X6_setGroup rfl rfl rfl (by decide +kernel) ⟨Nat.le_of_ble_eq_true rfl, Nat.le_of_ble_eq_true rfl⟩) (wrV (fr_mid [] (OW G qo o) hP) (fr_midD [] (OW G qo o) hD) hK 7 0 rfl rfl) rfl rfl hl.1 rfl (lv_room (Nat.le_of_ble_eq_true rfl)) dL_setGroup_7 ⟨Nat.zero_le _, Nat.zero_le _⟩) hP hD hS hA (fun _ => rfl) (fun H locs hP hD hS => ?_)
    refine lv_i2l (v := Int32.toInt64 r.1) hx hb dL_setGroup_10 rfl ?_
    refine va_last (D := G.1) hx hb hK.1 hP hD hS 20 3 rfl rfl (by unfold vp_in; decide) dL_setGroup_11 (fun H locs hP hD hS => ?_)
    have hP : va_P G.1 vwCl (XW G q qo (r.2, vp_updL o 0 (Int32.toInt64 r.1))) H := hP
    refine lv_goto (tgt := 27) hx hb dL_setGroup_12 (by decide) ?_
    refine lv_iconst (v := 0) hx hb dL_setGroup_27 (by decide) ?_
    refine W.widen (k := 1) (n := 6) (Nat.le_of_ble_eq_true rfl) (Nat.le_of_ble_eq_true rfl) ?_
    have h : some ((0 : Int32), (r.2, vp_updL o 0 (Int32.toInt64 r.1))) = some out := h
    exact W.iret (v := 0) hx hb hr (fun t ht _ => ⟨⟨0, (r.2, vp_updL o 0 (Int32.toInt64 r.1)), rfl, Option.some.inj h, by show va_P G.1 vwCl (XW G q qo (r.2, vp_updL o 0 (Int32.toInt64 r.1))) t.heap; rw [ht]; exact hP⟩, hS.F ht⟩) hS.2.2 dL_setGroup_28 hlocks

def rmL_require : Room := { frames := 20, cells := 1, slots := 6, locals := 500 }
set_option maxHeartbeats 4000000 in
set_option maxRecDepth 100000 in
theorem kL_require (l : Launch) (hl0 : l.stackTraces = false) (G : GT) (q : Nat → Nat) (qo : Nat) (C : St) (o : Nat → Int64) (sz : Nat) (x1 : Int32) (x2 : Int32) (out : Int32 × (St × (Nat → Int64))) (h : pL_require C o x1 x2 = some out) : Met l yL_require wsL_require rmL_require (va_Pc [.ref (q 0), .int x1, .int x2, .ref qo] (xP G (XW G q qo (C, o)) sz)) (va_Qi (fun r u => (r, u) = out) (fun u t => va_P G.1 vwCl (XW G q qo u) t.heap) (va_A (XW G q qo (C, o)) sz)) 1 6 (va_A (XW G q qo (C, o)) sz) := by
  refine va_MetW (cc := cL_require) (maxL := 5) (ret := (some .int)) (by decide) rfl ?_
  intro p e s m args below meth c s₁ B hml hv
  obtain ⟨rfl, ⟨hsz, hP, hK, hD0⟩, hE⟩ := hv
  have htab := vx_table (x := yL_require) B (atoms_spec (ws := wsL_require) B.pre _ List.mem_cons_self)
  have bx := bx_of B hml
  subst hsz
  have hD := hD0.self (sz := s.heap.size)
  generalize hAe : va_A (XW G q qo (C, o)) s.heap.size = A at hD hE ⊢
  have hA : ∀ q : Nat, s.heap.size ≤ q → A q := fun q h => by rw [← hAe]; exact Or.inr h
  have hS : va_S A s.heap s.heap [] := va_S.rf
  have hP : va_P G.1 vwCl ([] ++ (CW G q C ++ OW G qo o)) s.heap := hP
  have hD : va_D A ([] ++ (CW G q C ++ OW G qo o)) := hD
  obtain ⟨hx, hb, hr, hts, hown, hml, hlocks⟩ := id bx
  have hl := lv_entry ([.ref (q 0), .int x1, .int x2, .ref qo]) (n := 5) (Nat.le_of_ble_eq_true rfl)
  rw [lg_entry_eq]
  generalize (lg_sl ([.ref (q 0), .int x1, .int x2, .ref qo]) ++ List.replicate (5 - (lg_sl ([.ref (q 0), .int x1, .int x2, .ref qo])).length) Slot.unset).toArray = ls at hl ⊢
  have hl : lv_has ls 5 [(0, .ref (q 0)), (1, .int x1), (2, .int x2), (3, .ref qo)] := hl
  unfold pL_require at h
  rcases hc : pX6_require C x1 x2 with _ | (⟨ek, eC⟩ | r)
  · rw [hc] at h; cases h
  · rw [hc] at h
    by_cases h0 : ek = 1
    · subst h0
      have h : some ((1 : Int32), (eC, o)) = some out := h
      refine lv_aload_n hx hb dL_require_0 rfl (lv_at hl 3 rfl) ?_
      refine lv_iconst (v := 0) hx hb dL_require_1 (by decide) ?_
      refine lv_aload_n hx hb dL_require_2 rfl (lv_at hl 0 rfl) ?_
      refine lv_iload_n hx hb dL_require_3 rfl (lv_at hl 1 rfl) ?_
      refine lv_iload_n hx hb dL_require_4 rfl (lv_at hl 2 rfl) ?_
      refine x_call (Wd := CW G q) (e' := (1, eC)) [] (OW G qo o) (vx_runV (As := [.int x1, .int x2]) (rest := [.int 0, .ref qo]) ⟨hx, hb, hml, hown, hts⟩ (xX6_require l hl0 G q C _ x1 x2 (1, eC) hc) (cwV 2 hts gL_require_X6_require rfl rfl rfl (by decide +kernel) ⟨Nat.le_of_ble_eq_true rfl, Nat.le_of_ble_eq_true rfl⟩) (xV (fr_mid [] (OW G qo o) hP) (fr_midD [] (OW G qo o) hD) hS hK hA hE 7 0 rfl rfl) rfl rfl hl.1 rfl (lv_room (Nat.le_of_ble_eq_true rfl)) dL_require_5 ⟨Nat.le_of_ble_eq_true rfl, Nat.le_of_ble_eq_true rfl⟩) hP hD hS hA (fun _ => rfl) (fun ce q9 H locs hP hD hS hce hcv hcl => ?_)
      refine vx_catch hown [] (⟨0, 10, 13, 13⟩ : ExceptionTableEntry) [(⟨0, 10, 17, 15⟩ : ExceptionTableEntry), (⟨0, 10, 21, 17⟩ : ExceptionTableEntry), (⟨0, 10, 25, 23⟩ : ExceptionTableEntry)] (htab.trans rfl) (fun _ hz => absurd hz List.not_mem_nil) (by decide) (by decide) (w_mem hts 1 rfl) (hK.2.at 60 rfl) hce hcv hcl ?_
      refine lv_astore (lv' := [(4, .ref q9), (0, .ref (q 0)), (1, .int x1), (2, .int x2), (3, .ref qo)]) hx hb dL_require_13 hl (by decide) rfl (fun ls hl => ?_)
      refine lv_iconst (v := 1) hx hb dL_require_15 (by decide) ?_
      exact W.iret (v := 1) hx hb hr (fun t ht _ => ⟨⟨1, (eC, o), rfl, Option.some.inj h, by show va_P G.1 vwCl (XW G q qo (eC, o)) t.heap; rw [ht]; exact hP⟩, hS.F ht⟩) hS.2.2 dL_require_16 hlocks
    by_cases h1 : ek = 2
    · subst h1
      have h : some ((2 : Int32), (eC, o)) = some out := h
      refine lv_aload_n hx hb dL_require_0 rfl (lv_at hl 3 rfl) ?_
      refine lv_iconst (v := 0) hx hb dL_require_1 (by decide) ?_
      refine lv_aload_n hx hb dL_require_2 rfl (lv_at hl 0 rfl) ?_
      refine lv_iload_n hx hb dL_require_3 rfl (lv_at hl 1 rfl) ?_
      refine lv_iload_n hx hb dL_require_4 rfl (lv_at hl 2 rfl) ?_
      refine x_call (Wd := CW G q) (e' := (2, eC)) [] (OW G qo o) (vx_runV (As := [.int x1, .int x2]) (rest := [.int 0, .ref qo]) ⟨hx, hb, hml, hown, hts⟩ (xX6_require l hl0 G q C _ x1 x2 (2, eC) hc) (cwV 2 hts gL_require_X6_require rfl rfl rfl (by decide +kernel) ⟨Nat.le_of_ble_eq_true rfl, Nat.le_of_ble_eq_true rfl⟩) (xV (fr_mid [] (OW G qo o) hP) (fr_midD [] (OW G qo o) hD) hS hK hA hE 7 0 rfl rfl) rfl rfl hl.1 rfl (lv_room (Nat.le_of_ble_eq_true rfl)) dL_require_5 ⟨Nat.le_of_ble_eq_true rfl, Nat.le_of_ble_eq_true rfl⟩) hP hD hS hA (fun _ => rfl) (fun ce q9 H locs hP hD hS hce hcv hcl => ?_)
      refine vx_catch hown [(⟨0, 10, 13, 13⟩ : ExceptionTableEntry)] (⟨0, 10, 17, 15⟩ : ExceptionTableEntry) [(⟨0, 10, 21, 17⟩ : ExceptionTableEntry), (⟨0, 10, 25, 23⟩ : ExceptionTableEntry)] (htab.trans rfl) (List.forall_mem_cons.mpr ⟨Or.inr ⟨by decide, "java/lang/IndexOutOfBoundsException", (w_mem hts 1 rfl), hE.2.2.2 2 1 ⟨by decide, by decide⟩ ⟨by decide, by decide⟩ (by decide)⟩, fun _ hz => absurd hz List.not_mem_nil⟩) (by decide) (by decide) (w_mem hK.2.all 66 rfl) (hK.2.at 61 rfl) hce hcv hcl ?_
      refine lv_astore (lv' := [(4, .ref q9), (0, .ref (q 0)), (1, .int x1), (2, .int x2), (3, .ref qo)]) hx hb dL_require_17 hl (by decide) rfl (fun ls hl => ?_)
      refine lv_iconst (v := 2) hx hb dL_require_19 (by decide) ?_
      exact W.iret (v := 2) hx hb hr (fun t ht _ => ⟨⟨2, (eC, o), rfl, Option.some.inj h, by show va_P G.1 vwCl (XW G q qo (eC, o)) t.heap; rw [ht]; exact hP⟩, hS.F ht⟩) hS.2.2 dL_require_20 hlocks
    by_cases h2 : ek = 3
    · subst h2
      have h : some ((3 : Int32), (eC, o)) = some out := h
      refine lv_aload_n hx hb dL_require_0 rfl (lv_at hl 3 rfl) ?_
      refine lv_iconst (v := 0) hx hb dL_require_1 (by decide) ?_
      refine lv_aload_n hx hb dL_require_2 rfl (lv_at hl 0 rfl) ?_
      refine lv_iload_n hx hb dL_require_3 rfl (lv_at hl 1 rfl) ?_
      refine lv_iload_n hx hb dL_require_4 rfl (lv_at hl 2 rfl) ?_
      refine x_call (Wd := CW G q) (e' := (3, eC)) [] (OW G qo o) (vx_runV (As := [.int x1, .int x2]) (rest := [.int 0, .ref qo]) ⟨hx, hb, hml, hown, hts⟩ (xX6_require l hl0 G q C _ x1 x2 (3, eC) hc) (cwV 2 hts gL_require_X6_require rfl rfl rfl (by decide +kernel) ⟨Nat.le_of_ble_eq_true rfl, Nat.le_of_ble_eq_true rfl⟩) (xV (fr_mid [] (OW G qo o) hP) (fr_midD [] (OW G qo o) hD) hS hK hA hE 7 0 rfl rfl) rfl rfl hl.1 rfl (lv_room (Nat.le_of_ble_eq_true rfl)) dL_require_5 ⟨Nat.le_of_ble_eq_true rfl, Nat.le_of_ble_eq_true rfl⟩) hP hD hS hA (fun _ => rfl) (fun ce q9 H locs hP hD hS hce hcv hcl => ?_)
      refine vx_catch hown [(⟨0, 10, 13, 13⟩ : ExceptionTableEntry), (⟨0, 10, 17, 15⟩ : ExceptionTableEntry)] (⟨0, 10, 21, 17⟩ : ExceptionTableEntry) [(⟨0, 10, 25, 23⟩ : ExceptionTableEntry)] (htab.trans rfl) (List.forall_mem_cons.mpr ⟨Or.inr ⟨by decide, "java/lang/IndexOutOfBoundsException", (w_mem hts 1 rfl), hE.2.2.2 3 1 ⟨by decide, by decide⟩ ⟨by decide, by decide⟩ (by decide)⟩, List.forall_mem_cons.mpr ⟨Or.inr ⟨by decide, "java/lang/IllegalArgumentException", (w_mem hK.2.all 66 rfl), hE.2.2.2 3 2 ⟨by decide, by decide⟩ ⟨by decide, by decide⟩ (by decide)⟩, fun _ hz => absurd hz List.not_mem_nil⟩⟩) (by decide) (by decide) (w_mem hK.2.all 67 rfl) (hK.2.at 62 rfl) hce hcv hcl ?_
      refine lv_astore (lv' := [(4, .ref q9), (0, .ref (q 0)), (1, .int x1), (2, .int x2), (3, .ref qo)]) hx hb dL_require_21 hl (by decide) rfl (fun ls hl => ?_)
      refine lv_iconst (v := 3) hx hb dL_require_23 (by decide) ?_
      exact W.iret (v := 3) hx hb hr (fun t ht _ => ⟨⟨3, (eC, o), rfl, Option.some.inj h, by show va_P G.1 vwCl (XW G q qo (eC, o)) t.heap; rw [ht]; exact hP⟩, hS.F ht⟩) hS.2.2 dL_require_24 hlocks
    by_cases h3 : ek = 4
    · subst h3
      have h : some ((4 : Int32), (eC, o)) = some out := h
      refine lv_aload_n hx hb dL_require_0 rfl (lv_at hl 3 rfl) ?_
      refine lv_iconst (v := 0) hx hb dL_require_1 (by decide) ?_
      refine lv_aload_n hx hb dL_require_2 rfl (lv_at hl 0 rfl) ?_
      refine lv_iload_n hx hb dL_require_3 rfl (lv_at hl 1 rfl) ?_
      refine lv_iload_n hx hb dL_require_4 rfl (lv_at hl 2 rfl) ?_
      refine x_call (Wd := CW G q) (e' := (4, eC)) [] (OW G qo o) (vx_runV (As := [.int x1, .int x2]) (rest := [.int 0, .ref qo]) ⟨hx, hb, hml, hown, hts⟩ (xX6_require l hl0 G q C _ x1 x2 (4, eC) hc) (cwV 2 hts gL_require_X6_require rfl rfl rfl (by decide +kernel) ⟨Nat.le_of_ble_eq_true rfl, Nat.le_of_ble_eq_true rfl⟩) (xV (fr_mid [] (OW G qo o) hP) (fr_midD [] (OW G qo o) hD) hS hK hA hE 7 0 rfl rfl) rfl rfl hl.1 rfl (lv_room (Nat.le_of_ble_eq_true rfl)) dL_require_5 ⟨Nat.le_of_ble_eq_true rfl, Nat.le_of_ble_eq_true rfl⟩) hP hD hS hA (fun _ => rfl) (fun ce q9 H locs hP hD hS hce hcv hcl => ?_)
      refine vx_catch hown [(⟨0, 10, 13, 13⟩ : ExceptionTableEntry), (⟨0, 10, 17, 15⟩ : ExceptionTableEntry), (⟨0, 10, 21, 17⟩ : ExceptionTableEntry)] (⟨0, 10, 25, 23⟩ : ExceptionTableEntry) [] (htab.trans rfl) (List.forall_mem_cons.mpr ⟨Or.inr ⟨by decide, "java/lang/IndexOutOfBoundsException", (w_mem hts 1 rfl), hE.2.2.2 4 1 ⟨by decide, by decide⟩ ⟨by decide, by decide⟩ (by decide)⟩, List.forall_mem_cons.mpr ⟨Or.inr ⟨by decide, "java/lang/IllegalArgumentException", (w_mem hK.2.all 66 rfl), hE.2.2.2 4 2 ⟨by decide, by decide⟩ ⟨by decide, by decide⟩ (by decide)⟩, List.forall_mem_cons.mpr ⟨Or.inr ⟨by decide, "java/lang/IllegalStateException", (w_mem hK.2.all 67 rfl), hE.2.2.2 4 3 ⟨by decide, by decide⟩ ⟨by decide, by decide⟩ (by decide)⟩, fun _ hz => absurd hz List.not_mem_nil⟩⟩⟩) (by decide) (by decide) (w_mem hK.2.all 68 rfl) (hK.2.at 63 rfl) hce hcv hcl ?_
      refine lv_astore (lv' := [(4, .ref q9), (0, .ref (q 0)), (1, .int x1), (2, .int x2), (3, .ref qo)]) hx hb dL_require_25 hl (by decide) rfl (fun ls hl => ?_)
      refine lv_iconst (v := 4) hx hb dL_require_27 (by decide) ?_
      exact W.iret (v := 4) hx hb hr (fun t ht _ => ⟨⟨4, (eC, o), rfl, Option.some.inj h, by show va_P G.1 vwCl (XW G q qo (eC, o)) t.heap; rw [ht]; exact hP⟩, hS.F ht⟩) hS.2.2 dL_require_28 hlocks
    · exact absurd h (by simp [lresW, cdL_require, h0, h1, h2, h3])
  · rw [hc] at h
    refine lv_aload_n hx hb dL_require_0 rfl (lv_at hl 3 rfl) ?_
    refine lv_iconst (v := 0) hx hb dL_require_1 (by decide) ?_
    refine lv_aload_n hx hb dL_require_2 rfl (lv_at hl 0 rfl) ?_
    refine lv_iload_n hx hb dL_require_3 rfl (lv_at hl 1 rfl) ?_
    refine lv_iload_n hx hb dL_require_4 rfl (lv_at hl 2 rfl) ?_
    refine wf_i (Wd := CW G q) [] (OW G qo o) (va_runV (As := [.int x1, .int x2]) (rest := [.int 0, .ref qo]) ⟨hx, hb, hml, hown, hts⟩ (kX6_require l G q C _ x1 x2 r hc) (cwV 2 hts gL_require_X6_require rfl rfl rfl (by decide +kernel) ⟨Nat.le_of_ble_eq_true rfl, Nat.le_of_ble_eq_true rfl⟩) (wrV (fr_mid [] (OW G qo o) hP) (fr_midD [] (OW G qo o) hD) hK 7 0 rfl rfl) rfl rfl hl.1 rfl (lv_room (Nat.le_of_ble_eq_true rfl)) dL_require_5 ⟨Nat.zero_le _, Nat.zero_le _⟩) hP hD hS hA (fun _ => rfl) (fun H locs hP hD hS => ?_)
    refine lv_i2l (v := Int32.toInt64 r.1) hx hb dL_require_8 rfl ?_
    refine va_last (D := G.1) hx hb hK.1 hP hD hS 20 3 rfl rfl (by unfold vp_in; decide) dL_require_9 (fun H locs hP hD hS => ?_)
    have hP : va_P G.1 vwCl (XW G q qo (r.2, vp_updL o 0 (Int32.toInt64 r.1))) H := hP
    refine lv_goto (tgt := 29) hx hb dL_require_10 (by decide) ?_
    refine lv_iconst (v := 0) hx hb dL_require_29 (by decide) ?_
    refine W.widen (k := 1) (n := 6) (Nat.le_of_ble_eq_true rfl) (Nat.le_of_ble_eq_true rfl) ?_
    have h : some ((0 : Int32), (r.2, vp_updL o 0 (Int32.toInt64 r.1))) = some out := h
    exact W.iret (v := 0) hx hb hr (fun t ht _ => ⟨⟨0, (r.2, vp_updL o 0 (Int32.toInt64 r.1)), rfl, Option.some.inj h, by show va_P G.1 vwCl (XW G q qo (r.2, vp_updL o 0 (Int32.toInt64 r.1))) t.heap; rw [ht]; exact hP⟩, hS.F ht⟩) hS.2.2 dL_require_30 hlocks

def rmL_exclude : Room := { frames := 20, cells := 1, slots := 6, locals := 500 }
set_option maxHeartbeats 4000000 in
set_option maxRecDepth 100000 in
theorem kL_exclude (l : Launch) (hl0 : l.stackTraces = false) (G : GT) (q : Nat → Nat) (qo : Nat) (C : St) (o : Nat → Int64) (sz : Nat) (x1 : Int32) (x2 : Int32) (out : Int32 × (St × (Nat → Int64))) (h : pL_exclude C o x1 x2 = some out) : Met l yL_exclude wsL_exclude rmL_exclude (va_Pc [.ref (q 0), .int x1, .int x2, .ref qo] (xP G (XW G q qo (C, o)) sz)) (va_Qi (fun r u => (r, u) = out) (fun u t => va_P G.1 vwCl (XW G q qo u) t.heap) (va_A (XW G q qo (C, o)) sz)) 1 6 (va_A (XW G q qo (C, o)) sz) := by
  refine va_MetW (cc := cL_exclude) (maxL := 5) (ret := (some .int)) (by decide) rfl ?_
  intro p e s m args below meth c s₁ B hml hv
  obtain ⟨rfl, ⟨hsz, hP, hK, hD0⟩, hE⟩ := hv
  have htab := vx_table (x := yL_exclude) B (atoms_spec (ws := wsL_exclude) B.pre _ List.mem_cons_self)
  have bx := bx_of B hml
  subst hsz
  have hD := hD0.self (sz := s.heap.size)
  generalize hAe : va_A (XW G q qo (C, o)) s.heap.size = A at hD hE ⊢
  have hA : ∀ q : Nat, s.heap.size ≤ q → A q := fun q h => by rw [← hAe]; exact Or.inr h
  have hS : va_S A s.heap s.heap [] := va_S.rf
  have hP : va_P G.1 vwCl ([] ++ (CW G q C ++ OW G qo o)) s.heap := hP
  have hD : va_D A ([] ++ (CW G q C ++ OW G qo o)) := hD
  obtain ⟨hx, hb, hr, hts, hown, hml, hlocks⟩ := id bx
  have hl := lv_entry ([.ref (q 0), .int x1, .int x2, .ref qo]) (n := 5) (Nat.le_of_ble_eq_true rfl)
  rw [lg_entry_eq]
  generalize (lg_sl ([.ref (q 0), .int x1, .int x2, .ref qo]) ++ List.replicate (5 - (lg_sl ([.ref (q 0), .int x1, .int x2, .ref qo])).length) Slot.unset).toArray = ls at hl ⊢
  have hl : lv_has ls 5 [(0, .ref (q 0)), (1, .int x1), (2, .int x2), (3, .ref qo)] := hl
  unfold pL_exclude at h
  rcases hc : pX6_exclude C x1 x2 with _ | (⟨ek, eC⟩ | r)
  · rw [hc] at h; cases h
  · rw [hc] at h
    by_cases h0 : ek = 1
    · subst h0
      have h : some ((1 : Int32), (eC, o)) = some out := h
      refine lv_aload_n hx hb dL_exclude_0 rfl (lv_at hl 3 rfl) ?_
      refine lv_iconst (v := 0) hx hb dL_exclude_1 (by decide) ?_
      refine lv_aload_n hx hb dL_exclude_2 rfl (lv_at hl 0 rfl) ?_
      refine lv_iload_n hx hb dL_exclude_3 rfl (lv_at hl 1 rfl) ?_
      refine lv_iload_n hx hb dL_exclude_4 rfl (lv_at hl 2 rfl) ?_
      refine x_call (Wd := CW G q) (e' := (1, eC)) [] (OW G qo o) (vx_runV (As := [.int x1, .int x2]) (rest := [.int 0, .ref qo]) ⟨hx, hb, hml, hown, hts⟩ (xX6_exclude l hl0 G q C _ x1 x2 (1, eC) hc) (cwV 2 hts gL_exclude_X6_exclude rfl rfl rfl (by decide +kernel) ⟨Nat.le_of_ble_eq_true rfl, Nat.le_of_ble_eq_true rfl⟩) (xV (fr_mid [] (OW G qo o) hP) (fr_midD [] (OW G qo o) hD) hS hK hA hE 7 0 rfl rfl) rfl rfl hl.1 rfl (lv_room (Nat.le_of_ble_eq_true rfl)) dL_exclude_5 ⟨Nat.le_of_ble_eq_true rfl, Nat.le_of_ble_eq_true rfl⟩) hP hD hS hA (fun _ => rfl) (fun ce q9 H locs hP hD hS hce hcv hcl => ?_)
      refine vx_catch hown [] (⟨0, 10, 13, 13⟩ : ExceptionTableEntry) [(⟨0, 10, 17, 15⟩ : ExceptionTableEntry), (⟨0, 10, 21, 17⟩ : ExceptionTableEntry), (⟨0, 10, 25, 23⟩ : ExceptionTableEntry)] (htab.trans rfl) (fun _ hz => absurd hz List.not_mem_nil) (by decide) (by decide) (w_mem hts 1 rfl) (hK.2.at 60 rfl) hce hcv hcl ?_
      refine lv_astore (lv' := [(4, .ref q9), (0, .ref (q 0)), (1, .int x1), (2, .int x2), (3, .ref qo)]) hx hb dL_exclude_13 hl (by decide) rfl (fun ls hl => ?_)
      refine lv_iconst (v := 1) hx hb dL_exclude_15 (by decide) ?_
      exact W.iret (v := 1) hx hb hr (fun t ht _ => ⟨⟨1, (eC, o), rfl, Option.some.inj h, by show va_P G.1 vwCl (XW G q qo (eC, o)) t.heap; rw [ht]; exact hP⟩, hS.F ht⟩) hS.2.2 dL_exclude_16 hlocks
    by_cases h1 : ek = 2
    · subst h1
      have h : some ((2 : Int32), (eC, o)) = some out := h
      refine lv_aload_n hx hb dL_exclude_0 rfl (lv_at hl 3 rfl) ?_
      refine lv_iconst (v := 0) hx hb dL_exclude_1 (by decide) ?_
      refine lv_aload_n hx hb dL_exclude_2 rfl (lv_at hl 0 rfl) ?_
      refine lv_iload_n hx hb dL_exclude_3 rfl (lv_at hl 1 rfl) ?_
      refine lv_iload_n hx hb dL_exclude_4 rfl (lv_at hl 2 rfl) ?_
      refine x_call (Wd := CW G q) (e' := (2, eC)) [] (OW G qo o) (vx_runV (As := [.int x1, .int x2]) (rest := [.int 0, .ref qo]) ⟨hx, hb, hml, hown, hts⟩ (xX6_exclude l hl0 G q C _ x1 x2 (2, eC) hc) (cwV 2 hts gL_exclude_X6_exclude rfl rfl rfl (by decide +kernel) ⟨Nat.le_of_ble_eq_true rfl, Nat.le_of_ble_eq_true rfl⟩) (xV (fr_mid [] (OW G qo o) hP) (fr_midD [] (OW G qo o) hD) hS hK hA hE 7 0 rfl rfl) rfl rfl hl.1 rfl (lv_room (Nat.le_of_ble_eq_true rfl)) dL_exclude_5 ⟨Nat.le_of_ble_eq_true rfl, Nat.le_of_ble_eq_true rfl⟩) hP hD hS hA (fun _ => rfl) (fun ce q9 H locs hP hD hS hce hcv hcl => ?_)
      refine vx_catch hown [(⟨0, 10, 13, 13⟩ : ExceptionTableEntry)] (⟨0, 10, 17, 15⟩ : ExceptionTableEntry) [(⟨0, 10, 21, 17⟩ : ExceptionTableEntry), (⟨0, 10, 25, 23⟩ : ExceptionTableEntry)] (htab.trans rfl) (List.forall_mem_cons.mpr ⟨Or.inr ⟨by decide, "java/lang/IndexOutOfBoundsException", (w_mem hts 1 rfl), hE.2.2.2 2 1 ⟨by decide, by decide⟩ ⟨by decide, by decide⟩ (by decide)⟩, fun _ hz => absurd hz List.not_mem_nil⟩) (by decide) (by decide) (w_mem hK.2.all 66 rfl) (hK.2.at 61 rfl) hce hcv hcl ?_
      refine lv_astore (lv' := [(4, .ref q9), (0, .ref (q 0)), (1, .int x1), (2, .int x2), (3, .ref qo)]) hx hb dL_exclude_17 hl (by decide) rfl (fun ls hl => ?_)
      refine lv_iconst (v := 2) hx hb dL_exclude_19 (by decide) ?_
      exact W.iret (v := 2) hx hb hr (fun t ht _ => ⟨⟨2, (eC, o), rfl, Option.some.inj h, by show va_P G.1 vwCl (XW G q qo (eC, o)) t.heap; rw [ht]; exact hP⟩, hS.F ht⟩) hS.2.2 dL_exclude_20 hlocks
    by_cases h2 : ek = 3
    · subst h2
      have h : some ((3 : Int32), (eC, o)) = some out := h
      refine lv_aload_n hx hb dL_exclude_0 rfl (lv_at hl 3 rfl) ?_
      refine lv_iconst (v := 0) hx hb dL_exclude_1 (by decide) ?_
      refine lv_aload_n hx hb dL_exclude_2 rfl (lv_at hl 0 rfl) ?_
      refine lv_iload_n hx hb dL_exclude_3 rfl (lv_at hl 1 rfl) ?_
      refine lv_iload_n hx hb dL_exclude_4 rfl (lv_at hl 2 rfl) ?_
      refine x_call (Wd := CW G q) (e' := (3, eC)) [] (OW G qo o) (vx_runV (As := [.int x1, .int x2]) (rest := [.int 0, .ref qo]) ⟨hx, hb, hml, hown, hts⟩ (xX6_exclude l hl0 G q C _ x1 x2 (3, eC) hc) (cwV 2 hts gL_exclude_X6_exclude rfl rfl rfl (by decide +kernel) ⟨Nat.le_of_ble_eq_true rfl, Nat.le_of_ble_eq_true rfl⟩) (xV (fr_mid [] (OW G qo o) hP) (fr_midD [] (OW G qo o) hD) hS hK hA hE 7 0 rfl rfl) rfl rfl hl.1 rfl (lv_room (Nat.le_of_ble_eq_true rfl)) dL_exclude_5 ⟨Nat.le_of_ble_eq_true rfl, Nat.le_of_ble_eq_true rfl⟩) hP hD hS hA (fun _ => rfl) (fun ce q9 H locs hP hD hS hce hcv hcl => ?_)
      refine vx_catch hown [(⟨0, 10, 13, 13⟩ : ExceptionTableEntry), (⟨0, 10, 17, 15⟩ : ExceptionTableEntry)] (⟨0, 10, 21, 17⟩ : ExceptionTableEntry) [(⟨0, 10, 25, 23⟩ : ExceptionTableEntry)] (htab.trans rfl) (List.forall_mem_cons.mpr ⟨Or.inr ⟨by decide, "java/lang/IndexOutOfBoundsException", (w_mem hts 1 rfl), hE.2.2.2 3 1 ⟨by decide, by decide⟩ ⟨by decide, by decide⟩ (by decide)⟩, List.forall_mem_cons.mpr ⟨Or.inr ⟨by decide, "java/lang/IllegalArgumentException", (w_mem hK.2.all 66 rfl), hE.2.2.2 3 2 ⟨by decide, by decide⟩ ⟨by decide, by decide⟩ (by decide)⟩, fun _ hz => absurd hz List.not_mem_nil⟩⟩) (by decide) (by decide) (w_mem hK.2.all 67 rfl) (hK.2.at 62 rfl) hce hcv hcl ?_
      refine lv_astore (lv' := [(4, .ref q9), (0, .ref (q 0)), (1, .int x1), (2, .int x2), (3, .ref qo)]) hx hb dL_exclude_21 hl (by decide) rfl (fun ls hl => ?_)
      refine lv_iconst (v := 3) hx hb dL_exclude_23 (by decide) ?_
      exact W.iret (v := 3) hx hb hr (fun t ht _ => ⟨⟨3, (eC, o), rfl, Option.some.inj h, by show va_P G.1 vwCl (XW G q qo (eC, o)) t.heap; rw [ht]; exact hP⟩, hS.F ht⟩) hS.2.2 dL_exclude_24 hlocks
    by_cases h3 : ek = 4
    · subst h3
      have h : some ((4 : Int32), (eC, o)) = some out := h
      refine lv_aload_n hx hb dL_exclude_0 rfl (lv_at hl 3 rfl) ?_
      refine lv_iconst (v := 0) hx hb dL_exclude_1 (by decide) ?_
      refine lv_aload_n hx hb dL_exclude_2 rfl (lv_at hl 0 rfl) ?_
      refine lv_iload_n hx hb dL_exclude_3 rfl (lv_at hl 1 rfl) ?_
      refine lv_iload_n hx hb dL_exclude_4 rfl (lv_at hl 2 rfl) ?_
      refine x_call (Wd := CW G q) (e' := (4, eC)) [] (OW G qo o) (vx_runV (As := [.int x1, .int x2]) (rest := [.int 0, .ref qo]) ⟨hx, hb, hml, hown, hts⟩ (xX6_exclude l hl0 G q C _ x1 x2 (4, eC) hc) (cwV 2 hts gL_exclude_X6_exclude rfl rfl rfl (by decide +kernel) ⟨Nat.le_of_ble_eq_true rfl, Nat.le_of_ble_eq_true rfl⟩) (xV (fr_mid [] (OW G qo o) hP) (fr_midD [] (OW G qo o) hD) hS hK hA hE 7 0 rfl rfl) rfl rfl hl.1 rfl (lv_room (Nat.le_of_ble_eq_true rfl)) dL_exclude_5 ⟨Nat.le_of_ble_eq_true rfl, Nat.le_of_ble_eq_true rfl⟩) hP hD hS hA (fun _ => rfl) (fun ce q9 H locs hP hD hS hce hcv hcl => ?_)
      refine vx_catch hown [(⟨0, 10, 13, 13⟩ : ExceptionTableEntry), (⟨0, 10, 17, 15⟩ : ExceptionTableEntry), (⟨0, 10, 21, 17⟩ : ExceptionTableEntry)] (⟨0, 10, 25, 23⟩ : ExceptionTableEntry) [] (htab.trans rfl) (List.forall_mem_cons.mpr ⟨Or.inr ⟨by decide, "java/lang/IndexOutOfBoundsException", (w_mem hts 1 rfl), hE.2.2.2 4 1 ⟨by decide, by decide⟩ ⟨by decide, by decide⟩ (by decide)⟩, List.forall_mem_cons.mpr ⟨Or.inr ⟨by decide, "java/lang/IllegalArgumentException", (w_mem hK.2.all 66 rfl), hE.2.2.2 4 2 ⟨by decide, by decide⟩ ⟨by decide, by decide⟩ (by decide)⟩, List.forall_mem_cons.mpr ⟨Or.inr ⟨by decide, "java/lang/IllegalStateException", (w_mem hK.2.all 67 rfl), hE.2.2.2 4 3 ⟨by decide, by decide⟩ ⟨by decide, by decide⟩ (by decide)⟩, fun _ hz => absurd hz List.not_mem_nil⟩⟩⟩) (by decide) (by decide) (w_mem hK.2.all 68 rfl) (hK.2.at 63 rfl) hce hcv hcl ?_
      refine lv_astore (lv' := [(4, .ref q9), (0, .ref (q 0)), (1, .int x1), (2, .int x2), (3, .ref qo)]) hx hb dL_exclude_25 hl (by decide) rfl (fun ls hl => ?_)
      refine lv_iconst (v := 4) hx hb dL_exclude_27 (by decide) ?_
      exact W.iret (v := 4) hx hb hr (fun t ht _ => ⟨⟨4, (eC, o), rfl, Option.some.inj h, by show va_P G.1 vwCl (XW G q qo (eC, o)) t.heap; rw [ht]; exact hP⟩, hS.F ht⟩) hS.2.2 dL_exclude_28 hlocks
    · exact absurd h (by simp [lresW, cdL_exclude, h0, h1, h2, h3])
  · rw [hc] at h
    refine lv_aload_n hx hb dL_exclude_0 rfl (lv_at hl 3 rfl) ?_
    refine lv_iconst (v := 0) hx hb dL_exclude_1 (by decide) ?_
    refine lv_aload_n hx hb dL_exclude_2 rfl (lv_at hl 0 rfl) ?_
    refine lv_iload_n hx hb dL_exclude_3 rfl (lv_at hl 1 rfl) ?_
    refine lv_iload_n hx hb dL_exclude_4 rfl (lv_at hl 2 rfl) ?_
    refine wf_i (Wd := CW G q) [] (OW G qo o) (va_runV (As := [.int x1, .int x2]) (rest := [.int 0, .ref qo]) ⟨hx, hb, hml, hown, hts⟩ (kX6_exclude l G q C _ x1 x2 r hc) (cwV 2 hts gL_exclude_X6_exclude rfl rfl rfl (by decide +kernel) ⟨Nat.le_of_ble_eq_true rfl, Nat.le_of_ble_eq_true rfl⟩) (wrV (fr_mid [] (OW G qo o) hP) (fr_midD [] (OW G qo o) hD) hK 7 0 rfl rfl) rfl rfl hl.1 rfl (lv_room (Nat.le_of_ble_eq_true rfl)) dL_exclude_5 ⟨Nat.zero_le _, Nat.zero_le _⟩) hP hD hS hA (fun _ => rfl) (fun H locs hP hD hS => ?_)
    refine lv_i2l (v := Int32.toInt64 r.1) hx hb dL_exclude_8 rfl ?_
    refine va_last (D := G.1) hx hb hK.1 hP hD hS 20 3 rfl rfl (by unfold vp_in; decide) dL_exclude_9 (fun H locs hP hD hS => ?_)
    have hP : va_P G.1 vwCl (XW G q qo (r.2, vp_updL o 0 (Int32.toInt64 r.1))) H := hP
    refine lv_goto (tgt := 29) hx hb dL_exclude_10 (by decide) ?_
    refine lv_iconst (v := 0) hx hb dL_exclude_29 (by decide) ?_
    refine W.widen (k := 1) (n := 6) (Nat.le_of_ble_eq_true rfl) (Nat.le_of_ble_eq_true rfl) ?_
    have h : some ((0 : Int32), (r.2, vp_updL o 0 (Int32.toInt64 r.1))) = some out := h
    exact W.iret (v := 0) hx hb hr (fun t ht _ => ⟨⟨0, (r.2, vp_updL o 0 (Int32.toInt64 r.1)), rfl, Option.some.inj h, by show va_P G.1 vwCl (XW G q qo (r.2, vp_updL o 0 (Int32.toInt64 r.1))) t.heap; rw [ht]; exact hP⟩, hS.F ht⟩) hS.2.2 dL_exclude_30 hlocks

def rmL_any : Room := { frames := 20, cells := 1, slots := 6, locals := 502 }
set_option maxHeartbeats 4000000 in
set_option maxRecDepth 100000 in
theorem kL_any (l : Launch) (hl0 : l.stackTraces = false) (G : GT) (q : Nat → Nat) (qo : Nat) (C : St) (o : Nat → Int64) (sz : Nat) (x1 : Int32) (x2 : Int32) (x3 : Int32) (out : Int32 × (St × (Nat → Int64))) (h : pL_any C o x1 x2 x3 = some out) : Met l yL_any wsL_any rmL_any (va_Pc [.ref (q 0), .int x1, .int x2, .int x3, .ref qo] (xP G (XW G q qo (C, o)) sz)) (va_Qi (fun r u => (r, u) = out) (fun u t => va_P G.1 vwCl (XW G q qo u) t.heap) (va_A (XW G q qo (C, o)) sz)) 1 6 (va_A (XW G q qo (C, o)) sz) := by
  refine va_MetW (cc := cL_any) (maxL := 6) (ret := (some .int)) (by decide) rfl ?_
  intro p e s m args below meth c s₁ B hml hv
  obtain ⟨rfl, ⟨hsz, hP, hK, hD0⟩, hE⟩ := hv
  have htab := vx_table (x := yL_any) B (atoms_spec (ws := wsL_any) B.pre _ List.mem_cons_self)
  have bx := bx_of B hml
  subst hsz
  have hD := hD0.self (sz := s.heap.size)
  generalize hAe : va_A (XW G q qo (C, o)) s.heap.size = A at hD hE ⊢
  have hA : ∀ q : Nat, s.heap.size ≤ q → A q := fun q h => by rw [← hAe]; exact Or.inr h
  have hS : va_S A s.heap s.heap [] := va_S.rf
  have hP : va_P G.1 vwCl ([] ++ (CW G q C ++ OW G qo o)) s.heap := hP
  have hD : va_D A ([] ++ (CW G q C ++ OW G qo o)) := hD
  obtain ⟨hx, hb, hr, hts, hown, hml, hlocks⟩ := id bx
  have hl := lv_entry ([.ref (q 0), .int x1, .int x2, .int x3, .ref qo]) (n := 6) (Nat.le_of_ble_eq_true rfl)
  rw [lg_entry_eq]
  generalize (lg_sl ([.ref (q 0), .int x1, .int x2, .int x3, .ref qo]) ++ List.replicate (6 - (lg_sl ([.ref (q 0), .int x1, .int x2, .int x3, .ref qo])).length) Slot.unset).toArray = ls at hl ⊢
  have hl : lv_has ls 6 [(0, .ref (q 0)), (1, .int x1), (2, .int x2), (3, .int x3), (4, .ref qo)] := hl
  unfold pL_any at h
  rcases hc : pX6_any C x1 x2 x3 with _ | (⟨ek, eC⟩ | r)
  · rw [hc] at h; cases h
  · rw [hc] at h
    by_cases h0 : ek = 1
    · subst h0
      have h : some ((1 : Int32), (eC, o)) = some out := h
      refine lv_aload hx hb dL_any_0 (lv_at hl 4 rfl) ?_
      refine lv_iconst (v := 0) hx hb dL_any_2 (by decide) ?_
      refine lv_aload_n hx hb dL_any_3 rfl (lv_at hl 0 rfl) ?_
      refine lv_iload_n hx hb dL_any_4 rfl (lv_at hl 1 rfl) ?_
      refine lv_iload_n hx hb dL_any_5 rfl (lv_at hl 2 rfl) ?_
      refine lv_iload_n hx hb dL_any_6 rfl (lv_at hl 3 rfl) ?_
      refine x_call (Wd := CW G q) (e' := (1, eC)) [] (OW G qo o) (vx_runV (As := [.int x1, .int x2, .int x3]) (rest := [.int 0, .ref qo]) ⟨hx, hb, hml, hown, hts⟩ (xX6_any l hl0 G q C _ x1 x2 x3 (1, eC) hc) (cwV 3 hts gL_any_X6_any rfl rfl rfl (by decide +kernel) ⟨Nat.le_of_ble_eq_true rfl, Nat.le_of_ble_eq_true rfl⟩) (xV (fr_mid [] (OW G qo o) hP) (fr_midD [] (OW G qo o) hD) hS hK hA hE 7 0 rfl rfl) rfl rfl hl.1 rfl (lv_room (Nat.le_of_ble_eq_true rfl)) dL_any_7 ⟨Nat.le_of_ble_eq_true rfl, Nat.le_of_ble_eq_true rfl⟩) hP hD hS hA (fun _ => rfl) (fun ce q9 H locs hP hD hS hce hcv hcl => ?_)
      refine vx_catch hown [] (⟨0, 12, 15, 13⟩ : ExceptionTableEntry) [(⟨0, 12, 19, 15⟩ : ExceptionTableEntry), (⟨0, 12, 23, 17⟩ : ExceptionTableEntry), (⟨0, 12, 27, 23⟩ : ExceptionTableEntry)] (htab.trans rfl) (fun _ hz => absurd hz List.not_mem_nil) (by decide) (by decide) (w_mem hts 1 rfl) (hK.2.at 60 rfl) hce hcv hcl ?_
      refine lv_astore (lv' := [(5, .ref q9), (0, .ref (q 0)), (1, .int x1), (2, .int x2), (3, .int x3), (4, .ref qo)]) hx hb dL_any_15 hl (by decide) rfl (fun ls hl => ?_)
      refine lv_iconst (v := 1) hx hb dL_any_17 (by decide) ?_
      exact W.iret (v := 1) hx hb hr (fun t ht _ => ⟨⟨1, (eC, o), rfl, Option.some.inj h, by show va_P G.1 vwCl (XW G q qo (eC, o)) t.heap; rw [ht]; exact hP⟩, hS.F ht⟩) hS.2.2 dL_any_18 hlocks
    by_cases h1 : ek = 2
    · subst h1
      have h : some ((2 : Int32), (eC, o)) = some out := h
      refine lv_aload hx hb dL_any_0 (lv_at hl 4 rfl) ?_
      refine lv_iconst (v := 0) hx hb dL_any_2 (by decide) ?_
      refine lv_aload_n hx hb dL_any_3 rfl (lv_at hl 0 rfl) ?_
      refine lv_iload_n hx hb dL_any_4 rfl (lv_at hl 1 rfl) ?_
      refine lv_iload_n hx hb dL_any_5 rfl (lv_at hl 2 rfl) ?_
      refine lv_iload_n hx hb dL_any_6 rfl (lv_at hl 3 rfl) ?_
      refine x_call (Wd := CW G q) (e' := (2, eC)) [] (OW G qo o) (vx_runV (As := [.int x1, .int x2, .int x3]) (rest := [.int 0, .ref qo]) ⟨hx, hb, hml, hown, hts⟩ (xX6_any l hl0 G q C _ x1 x2 x3 (2, eC) hc) (cwV 3 hts gL_any_X6_any rfl rfl rfl (by decide +kernel) ⟨Nat.le_of_ble_eq_true rfl, Nat.le_of_ble_eq_true rfl⟩) (xV (fr_mid [] (OW G qo o) hP) (fr_midD [] (OW G qo o) hD) hS hK hA hE 7 0 rfl rfl) rfl rfl hl.1 rfl (lv_room (Nat.le_of_ble_eq_true rfl)) dL_any_7 ⟨Nat.le_of_ble_eq_true rfl, Nat.le_of_ble_eq_true rfl⟩) hP hD hS hA (fun _ => rfl) (fun ce q9 H locs hP hD hS hce hcv hcl => ?_)
      refine vx_catch hown [(⟨0, 12, 15, 13⟩ : ExceptionTableEntry)] (⟨0, 12, 19, 15⟩ : ExceptionTableEntry) [(⟨0, 12, 23, 17⟩ : ExceptionTableEntry), (⟨0, 12, 27, 23⟩ : ExceptionTableEntry)] (htab.trans rfl) (List.forall_mem_cons.mpr ⟨Or.inr ⟨by decide, "java/lang/IndexOutOfBoundsException", (w_mem hts 1 rfl), hE.2.2.2 2 1 ⟨by decide, by decide⟩ ⟨by decide, by decide⟩ (by decide)⟩, fun _ hz => absurd hz List.not_mem_nil⟩) (by decide) (by decide) (w_mem hK.2.all 66 rfl) (hK.2.at 61 rfl) hce hcv hcl ?_
      refine lv_astore (lv' := [(5, .ref q9), (0, .ref (q 0)), (1, .int x1), (2, .int x2), (3, .int x3), (4, .ref qo)]) hx hb dL_any_19 hl (by decide) rfl (fun ls hl => ?_)
      refine lv_iconst (v := 2) hx hb dL_any_21 (by decide) ?_
      exact W.iret (v := 2) hx hb hr (fun t ht _ => ⟨⟨2, (eC, o), rfl, Option.some.inj h, by show va_P G.1 vwCl (XW G q qo (eC, o)) t.heap; rw [ht]; exact hP⟩, hS.F ht⟩) hS.2.2 dL_any_22 hlocks
    by_cases h2 : ek = 3
    · subst h2
      have h : some ((3 : Int32), (eC, o)) = some out := h
      refine lv_aload hx hb dL_any_0 (lv_at hl 4 rfl) ?_
      refine lv_iconst (v := 0) hx hb dL_any_2 (by decide) ?_
      refine lv_aload_n hx hb dL_any_3 rfl (lv_at hl 0 rfl) ?_
      refine lv_iload_n hx hb dL_any_4 rfl (lv_at hl 1 rfl) ?_
      refine lv_iload_n hx hb dL_any_5 rfl (lv_at hl 2 rfl) ?_
      refine lv_iload_n hx hb dL_any_6 rfl (lv_at hl 3 rfl) ?_
      refine x_call (Wd := CW G q) (e' := (3, eC)) [] (OW G qo o) (vx_runV (As := [.int x1, .int x2, .int x3]) (rest := [.int 0, .ref qo]) ⟨hx, hb, hml, hown, hts⟩ (xX6_any l hl0 G q C _ x1 x2 x3 (3, eC) hc) (cwV 3 hts gL_any_X6_any rfl rfl rfl (by decide +kernel) ⟨Nat.le_of_ble_eq_true rfl, Nat.le_of_ble_eq_true rfl⟩) (xV (fr_mid [] (OW G qo o) hP) (fr_midD [] (OW G qo o) hD) hS hK hA hE 7 0 rfl rfl) rfl rfl hl.1 rfl (lv_room (Nat.le_of_ble_eq_true rfl)) dL_any_7 ⟨Nat.le_of_ble_eq_true rfl, Nat.le_of_ble_eq_true rfl⟩) hP hD hS hA (fun _ => rfl) (fun ce q9 H locs hP hD hS hce hcv hcl => ?_)
      refine vx_catch hown [(⟨0, 12, 15, 13⟩ : ExceptionTableEntry), (⟨0, 12, 19, 15⟩ : ExceptionTableEntry)] (⟨0, 12, 23, 17⟩ : ExceptionTableEntry) [(⟨0, 12, 27, 23⟩ : ExceptionTableEntry)] (htab.trans rfl) (List.forall_mem_cons.mpr ⟨Or.inr ⟨by decide, "java/lang/IndexOutOfBoundsException", (w_mem hts 1 rfl), hE.2.2.2 3 1 ⟨by decide, by decide⟩ ⟨by decide, by decide⟩ (by decide)⟩, List.forall_mem_cons.mpr ⟨Or.inr ⟨by decide, "java/lang/IllegalArgumentException", (w_mem hK.2.all 66 rfl), hE.2.2.2 3 2 ⟨by decide, by decide⟩ ⟨by decide, by decide⟩ (by decide)⟩, fun _ hz => absurd hz List.not_mem_nil⟩⟩) (by decide) (by decide) (w_mem hK.2.all 67 rfl) (hK.2.at 62 rfl) hce hcv hcl ?_
      refine lv_astore (lv' := [(5, .ref q9), (0, .ref (q 0)), (1, .int x1), (2, .int x2), (3, .int x3), (4, .ref qo)]) hx hb dL_any_23 hl (by decide) rfl (fun ls hl => ?_)
      refine lv_iconst (v := 3) hx hb dL_any_25 (by decide) ?_
      exact W.iret (v := 3) hx hb hr (fun t ht _ => ⟨⟨3, (eC, o), rfl, Option.some.inj h, by show va_P G.1 vwCl (XW G q qo (eC, o)) t.heap; rw [ht]; exact hP⟩, hS.F ht⟩) hS.2.2 dL_any_26 hlocks
    by_cases h3 : ek = 4
    · subst h3
      have h : some ((4 : Int32), (eC, o)) = some out := h
      refine lv_aload hx hb dL_any_0 (lv_at hl 4 rfl) ?_
      refine lv_iconst (v := 0) hx hb dL_any_2 (by decide) ?_
      refine lv_aload_n hx hb dL_any_3 rfl (lv_at hl 0 rfl) ?_
      refine lv_iload_n hx hb dL_any_4 rfl (lv_at hl 1 rfl) ?_
      refine lv_iload_n hx hb dL_any_5 rfl (lv_at hl 2 rfl) ?_
      refine lv_iload_n hx hb dL_any_6 rfl (lv_at hl 3 rfl) ?_
      refine x_call (Wd := CW G q) (e' := (4, eC)) [] (OW G qo o) (vx_runV (As := [.int x1, .int x2, .int x3]) (rest := [.int 0, .ref qo]) ⟨hx, hb, hml, hown, hts⟩ (xX6_any l hl0 G q C _ x1 x2 x3 (4, eC) hc) (cwV 3 hts gL_any_X6_any rfl rfl rfl (by decide +kernel) ⟨Nat.le_of_ble_eq_true rfl, Nat.le_of_ble_eq_true rfl⟩) (xV (fr_mid [] (OW G qo o) hP) (fr_midD [] (OW G qo o) hD) hS hK hA hE 7 0 rfl rfl) rfl rfl hl.1 rfl (lv_room (Nat.le_of_ble_eq_true rfl)) dL_any_7 ⟨Nat.le_of_ble_eq_true rfl, Nat.le_of_ble_eq_true rfl⟩) hP hD hS hA (fun _ => rfl) (fun ce q9 H locs hP hD hS hce hcv hcl => ?_)
      refine vx_catch hown [(⟨0, 12, 15, 13⟩ : ExceptionTableEntry), (⟨0, 12, 19, 15⟩ : ExceptionTableEntry), (⟨0, 12, 23, 17⟩ : ExceptionTableEntry)] (⟨0, 12, 27, 23⟩ : ExceptionTableEntry) [] (htab.trans rfl) (List.forall_mem_cons.mpr ⟨Or.inr ⟨by decide, "java/lang/IndexOutOfBoundsException", (w_mem hts 1 rfl), hE.2.2.2 4 1 ⟨by decide, by decide⟩ ⟨by decide, by decide⟩ (by decide)⟩, List.forall_mem_cons.mpr ⟨Or.inr ⟨by decide, "java/lang/IllegalArgumentException", (w_mem hK.2.all 66 rfl), hE.2.2.2 4 2 ⟨by decide, by decide⟩ ⟨by decide, by decide⟩ (by decide)⟩, List.forall_mem_cons.mpr ⟨Or.inr ⟨by decide, "java/lang/IllegalStateException", (w_mem hK.2.all 67 rfl), hE.2.2.2 4 3 ⟨by decide, by decide⟩ ⟨by decide, by decide⟩ (by decide)⟩, fun _ hz => absurd hz List.not_mem_nil⟩⟩⟩) (by decide) (by decide) (w_mem hK.2.all 68 rfl) (hK.2.at 63 rfl) hce hcv hcl ?_
      refine lv_astore (lv' := [(5, .ref q9), (0, .ref (q 0)), (1, .int x1), (2, .int x2), (3, .int x3), (4, .ref qo)]) hx hb dL_any_27 hl (by decide) rfl (fun ls hl => ?_)
      refine lv_iconst (v := 4) hx hb dL_any_29 (by decide) ?_
      exact W.iret (v := 4) hx hb hr (fun t ht _ => ⟨⟨4, (eC, o), rfl, Option.some.inj h, by show va_P G.1 vwCl (XW G q qo (eC, o)) t.heap; rw [ht]; exact hP⟩, hS.F ht⟩) hS.2.2 dL_any_30 hlocks
    · exact absurd h (by simp [lresW, cdL_any, h0, h1, h2, h3])
  · rw [hc] at h
    refine lv_aload hx hb dL_any_0 (lv_at hl 4 rfl) ?_
    refine lv_iconst (v := 0) hx hb dL_any_2 (by decide) ?_
    refine lv_aload_n hx hb dL_any_3 rfl (lv_at hl 0 rfl) ?_
    refine lv_iload_n hx hb dL_any_4 rfl (lv_at hl 1 rfl) ?_
    refine lv_iload_n hx hb dL_any_5 rfl (lv_at hl 2 rfl) ?_
    refine lv_iload_n hx hb dL_any_6 rfl (lv_at hl 3 rfl) ?_
    refine wf_i (Wd := CW G q) [] (OW G qo o) (va_runV (As := [.int x1, .int x2, .int x3]) (rest := [.int 0, .ref qo]) ⟨hx, hb, hml, hown, hts⟩ (kX6_any l G q C _ x1 x2 x3 r hc) (cwV 3 hts gL_any_X6_any rfl rfl rfl (by decide +kernel) ⟨Nat.le_of_ble_eq_true rfl, Nat.le_of_ble_eq_true rfl⟩) (wrV (fr_mid [] (OW G qo o) hP) (fr_midD [] (OW G qo o) hD) hK 7 0 rfl rfl) rfl rfl hl.1 rfl (lv_room (Nat.le_of_ble_eq_true rfl)) dL_any_7 ⟨Nat.zero_le _, Nat.zero_le _⟩) hP hD hS hA (fun _ => rfl) (fun H locs hP hD hS => ?_)
    refine lv_i2l (v := Int32.toInt64 r.1) hx hb dL_any_10 rfl ?_
    refine va_last (D := G.1) hx hb hK.1 hP hD hS 20 3 rfl rfl (by unfold vp_in; decide) dL_any_11 (fun H locs hP hD hS => ?_)
    have hP : va_P G.1 vwCl (XW G q qo (r.2, vp_updL o 0 (Int32.toInt64 r.1))) H := hP
    refine lv_goto (tgt := 31) hx hb dL_any_12 (by decide) ?_
    refine lv_iconst (v := 0) hx hb dL_any_31 (by decide) ?_
    refine W.widen (k := 1) (n := 6) (Nat.le_of_ble_eq_true rfl) (Nat.le_of_ble_eq_true rfl) ?_
    have h : some ((0 : Int32), (r.2, vp_updL o 0 (Int32.toInt64 r.1))) = some out := h
    exact W.iret (v := 0) hx hb hr (fun t ht _ => ⟨⟨0, (r.2, vp_updL o 0 (Int32.toInt64 r.1)), rfl, Option.some.inj h, by show va_P G.1 vwCl (XW G q qo (r.2, vp_updL o 0 (Int32.toInt64 r.1))) t.heap; rw [ht]; exact hP⟩, hS.F ht⟩) hS.2.2 dL_any_32 hlocks

def rmL_lift : Room := { frames := 7, cells := 1, slots := 6, locals := 121 }
set_option maxHeartbeats 4000000 in
set_option maxRecDepth 100000 in
theorem kL_lift (l : Launch) (hl0 : l.stackTraces = false) (G : GT) (q : Nat → Nat) (qo : Nat) (C : St) (o : Nat → Int64) (sz : Nat) (x1 : Int32) (out : Int32 × (St × (Nat → Int64))) (h : pL_lift C o x1 = some out) : Met l yL_lift wsL_lift rmL_lift (va_Pc [.ref (q 0), .int x1, .ref qo] (xP G (XW G q qo (C, o)) sz)) (va_Qi (fun r u => (r, u) = out) (fun u t => va_P G.1 vwCl (XW G q qo u) t.heap) (va_A (XW G q qo (C, o)) sz)) 1 6 (va_A (XW G q qo (C, o)) sz) := by
  refine va_MetW (cc := cL_lift) (maxL := 4) (ret := (some .int)) (by decide) rfl ?_
  intro p e s m args below meth c s₁ B hml hv
  obtain ⟨rfl, ⟨hsz, hP, hK, hD0⟩, hE⟩ := hv
  have htab := vx_table (x := yL_lift) B (atoms_spec (ws := wsL_lift) B.pre _ List.mem_cons_self)
  have bx := bx_of B hml
  subst hsz
  have hD := hD0.self (sz := s.heap.size)
  generalize hAe : va_A (XW G q qo (C, o)) s.heap.size = A at hD hE ⊢
  have hA : ∀ q : Nat, s.heap.size ≤ q → A q := fun q h => by rw [← hAe]; exact Or.inr h
  have hS : va_S A s.heap s.heap [] := va_S.rf
  have hP : va_P G.1 vwCl ([] ++ (CW G q C ++ OW G qo o)) s.heap := hP
  have hD : va_D A ([] ++ (CW G q C ++ OW G qo o)) := hD
  obtain ⟨hx, hb, hr, hts, hown, hml, hlocks⟩ := id bx
  have hl := lv_entry ([.ref (q 0), .int x1, .ref qo]) (n := 4) (Nat.le_of_ble_eq_true rfl)
  rw [lg_entry_eq]
  generalize (lg_sl ([.ref (q 0), .int x1, .ref qo]) ++ List.replicate (4 - (lg_sl ([.ref (q 0), .int x1, .ref qo])).length) Slot.unset).toArray = ls at hl ⊢
  have hl : lv_has ls 4 [(0, .ref (q 0)), (1, .int x1), (2, .ref qo)] := hl
  unfold pL_lift at h
  rcases hc : pX6_lift C x1 with _ | (⟨ek, eC⟩ | r)
  · rw [hc] at h; cases h
  · rw [hc] at h
    by_cases h0 : ek = 5
    · subst h0
      have h : some ((1 : Int32), (eC, o)) = some out := h
      refine lv_aload_n hx hb dL_lift_0 rfl (lv_at hl 2 rfl) ?_
      refine lv_iconst (v := 0) hx hb dL_lift_1 (by decide) ?_
      refine lv_aload_n hx hb dL_lift_2 rfl (lv_at hl 0 rfl) ?_
      refine lv_iload_n hx hb dL_lift_3 rfl (lv_at hl 1 rfl) ?_
      refine x_call (Wd := CW G q) (e' := (5, eC)) [] (OW G qo o) (vx_runV (As := [.int x1]) (rest := [.int 0, .ref qo]) ⟨hx, hb, hml, hown, hts⟩ (xX6_lift l hl0 G q C _ x1 (5, eC) hc) (cwV 1 hts gL_lift_X6_lift rfl rfl rfl (by decide +kernel) ⟨Nat.le_of_ble_eq_true rfl, Nat.le_of_ble_eq_true rfl⟩) (xV (fr_mid [] (OW G qo o) hP) (fr_midD [] (OW G qo o) hD) hS hK hA hE 7 0 rfl rfl) rfl rfl hl.1 rfl (lv_room (Nat.le_of_ble_eq_true rfl)) dL_lift_4 ⟨Nat.le_of_ble_eq_true rfl, Nat.le_of_ble_eq_true rfl⟩) hP hD hS hA (fun _ => rfl) (fun ce q9 H locs hP hD hS hce hcv hcl => ?_)
      refine vx_catch hown [] (⟨0, 9, 12, 42⟩ : ExceptionTableEntry) [(⟨0, 9, 15, 17⟩ : ExceptionTableEntry)] (htab.trans rfl) (fun _ hz => absurd hz List.not_mem_nil) (by decide) (by decide) (w_mem hts 1 rfl) (hK.2.at 64 rfl) hce hcv hcl ?_
      refine lv_astore_n (lv' := [(3, .ref q9), (0, .ref (q 0)), (1, .int x1), (2, .ref qo)]) hx hb dL_lift_12 rfl hl (by decide) rfl (fun ls hl => ?_)
      refine lv_iconst (v := 1) hx hb dL_lift_13 (by decide) ?_
      exact W.iret (v := 1) hx hb hr (fun t ht _ => ⟨⟨1, (eC, o), rfl, Option.some.inj h, by show va_P G.1 vwCl (XW G q qo (eC, o)) t.heap; rw [ht]; exact hP⟩, hS.F ht⟩) hS.2.2 dL_lift_14 hlocks
    by_cases h1 : ek = 3
    · subst h1
      have h : some ((2 : Int32), (eC, o)) = some out := h
      refine lv_aload_n hx hb dL_lift_0 rfl (lv_at hl 2 rfl) ?_
      refine lv_iconst (v := 0) hx hb dL_lift_1 (by decide) ?_
      refine lv_aload_n hx hb dL_lift_2 rfl (lv_at hl 0 rfl) ?_
      refine lv_iload_n hx hb dL_lift_3 rfl (lv_at hl 1 rfl) ?_
      refine x_call (Wd := CW G q) (e' := (3, eC)) [] (OW G qo o) (vx_runV (As := [.int x1]) (rest := [.int 0, .ref qo]) ⟨hx, hb, hml, hown, hts⟩ (xX6_lift l hl0 G q C _ x1 (3, eC) hc) (cwV 1 hts gL_lift_X6_lift rfl rfl rfl (by decide +kernel) ⟨Nat.le_of_ble_eq_true rfl, Nat.le_of_ble_eq_true rfl⟩) (xV (fr_mid [] (OW G qo o) hP) (fr_midD [] (OW G qo o) hD) hS hK hA hE 7 0 rfl rfl) rfl rfl hl.1 rfl (lv_room (Nat.le_of_ble_eq_true rfl)) dL_lift_4 ⟨Nat.le_of_ble_eq_true rfl, Nat.le_of_ble_eq_true rfl⟩) hP hD hS hA (fun _ => rfl) (fun ce q9 H locs hP hD hS hce hcv hcl => ?_)
      refine vx_catch hown [(⟨0, 9, 12, 42⟩ : ExceptionTableEntry)] (⟨0, 9, 15, 17⟩ : ExceptionTableEntry) [] (htab.trans rfl) (List.forall_mem_cons.mpr ⟨Or.inr ⟨by decide, "java/util/NoSuchElementException", (w_mem hts 1 rfl), hE.2.2.2 3 5 ⟨by decide, by decide⟩ ⟨by decide, by decide⟩ (by decide)⟩, fun _ hz => absurd hz List.not_mem_nil⟩) (by decide) (by decide) (w_mem hK.2.all 67 rfl) (hK.2.at 62 rfl) hce hcv hcl ?_
      refine lv_astore_n (lv' := [(3, .ref q9), (0, .ref (q 0)), (1, .int x1), (2, .ref qo)]) hx hb dL_lift_15 rfl hl (by decide) rfl (fun ls hl => ?_)
      refine lv_iconst (v := 2) hx hb dL_lift_16 (by decide) ?_
      exact W.iret (v := 2) hx hb hr (fun t ht _ => ⟨⟨2, (eC, o), rfl, Option.some.inj h, by show va_P G.1 vwCl (XW G q qo (eC, o)) t.heap; rw [ht]; exact hP⟩, hS.F ht⟩) hS.2.2 dL_lift_17 hlocks
    · exact absurd h (by simp [lresW, cdL_lift, h0, h1])
  · rw [hc] at h
    refine lv_aload_n hx hb dL_lift_0 rfl (lv_at hl 2 rfl) ?_
    refine lv_iconst (v := 0) hx hb dL_lift_1 (by decide) ?_
    refine lv_aload_n hx hb dL_lift_2 rfl (lv_at hl 0 rfl) ?_
    refine lv_iload_n hx hb dL_lift_3 rfl (lv_at hl 1 rfl) ?_
    refine wf_i (Wd := CW G q) [] (OW G qo o) (va_runV (As := [.int x1]) (rest := [.int 0, .ref qo]) ⟨hx, hb, hml, hown, hts⟩ (kX6_lift l G q C _ x1 r hc) (cwV 1 hts gL_lift_X6_lift rfl rfl rfl (by decide +kernel) ⟨Nat.le_of_ble_eq_true rfl, Nat.le_of_ble_eq_true rfl⟩) (wrV (fr_mid [] (OW G qo o) hP) (fr_midD [] (OW G qo o) hD) hK 7 0 rfl rfl) rfl rfl hl.1 rfl (lv_room (Nat.le_of_ble_eq_true rfl)) dL_lift_4 ⟨Nat.zero_le _, Nat.zero_le _⟩) hP hD hS hA (fun _ => rfl) (fun H locs hP hD hS => ?_)
    refine lv_i2l (v := Int32.toInt64 r.1) hx hb dL_lift_7 rfl ?_
    refine va_last (D := G.1) hx hb hK.1 hP hD hS 20 3 rfl rfl (by unfold vp_in; decide) dL_lift_8 (fun H locs hP hD hS => ?_)
    have hP : va_P G.1 vwCl (XW G q qo (r.2, vp_updL o 0 (Int32.toInt64 r.1))) H := hP
    refine lv_goto (tgt := 18) hx hb dL_lift_9 (by decide) ?_
    refine lv_iconst (v := 0) hx hb dL_lift_18 (by decide) ?_
    refine W.widen (k := 1) (n := 6) (Nat.le_of_ble_eq_true rfl) (Nat.le_of_ble_eq_true rfl) ?_
    have h : some ((0 : Int32), (r.2, vp_updL o 0 (Int32.toInt64 r.1))) = some out := h
    exact W.iret (v := 0) hx hb hr (fun t ht _ => ⟨⟨0, (r.2, vp_updL o 0 (Int32.toInt64 r.1)), rfl, Option.some.inj h, by show va_P G.1 vwCl (XW G q qo (r.2, vp_updL o 0 (Int32.toInt64 r.1))) t.heap; rw [ht]; exact hP⟩, hS.F ht⟩) hS.2.2 dL_lift_19 hlocks
