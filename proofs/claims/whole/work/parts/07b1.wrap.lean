def rmL_choose : Room := { frames := 18, cells := 1, slots := 6, locals := 456 }
set_option maxHeartbeats 4000000 in
set_option maxRecDepth 100000 in
theorem kL_choose (l : Launch) (hl0 : l.stackTraces = false) (G : GT) (q : Nat → Nat) (qo : Nat) (C : St) (o : Nat → Int64) (sz : Nat) (x1 : Int32) (out : Int32 × (St × (Nat → Int64))) (h : pL_choose C o x1 = some out) : Met l yL_choose wsL_choose rmL_choose (va_Pc [.ref (q 0), .int x1, .ref qo] (xP G (XW G q qo (C, o)) sz)) (va_Qi (fun r u => (r, u) = out) (fun u t => va_P G.1 vwCl (XW G q qo u) t.heap) (va_A (XW G q qo (C, o)) sz)) 1 6 (va_A (XW G q qo (C, o)) sz) := by
  refine va_MetW (cc := cL_choose) (maxL := 4) (ret := (some .int)) (by decide) rfl ?_
  intro p e s m args below meth c s₁ B hml hv
  obtain ⟨rfl, ⟨hsz, hP, hK, hD0⟩, hE⟩ := hv
  have htab := vx_table (x := yL_choose) B (atoms_spec (ws := wsL_choose) B.pre _ List.mem_cons_self)
  have bx := bx_of B hml
  subst hsz
  have hD := hD0.self (sz := s.heap.size)
  generalize hAe : va_A (XW G q qo (C, o)) s.heap.size = A at hD hE ⊢
  have hA : ∀ q : Nat, s.heap.size ≤ q → A q := fun q h => by rw [← hAe]; exact Or.inr h
  have hS : va_S A s.heap s.heap [] := va_S.rf
  have hP : va_P G.1 vwCl ([] ++ (CW G q C ++ OW G qo o)) s.heap := hP
  have hD : va_D A ([] ++ (CW G q C ++ OW G qo o)) := hD
  obtain ⟨hx, hb, hr, hts, hown, hml, hlocks⟩ := id bx
  have hl := lv_entry ([.ref (q 0), .int x1, .ref qo]) (n := 4) (Nat.le_of_ble_eq_true rfl)
  rw [lg_entry_eq]
  generalize (lg_sl ([.ref (q 0), .int x1, .ref qo]) ++ List.replicate (4 - (lg_sl ([.ref (q 0), .int x1, .ref qo])).length) Slot.unset).toArray = ls at hl ⊢
  have hl : lv_has ls 4 [(0, .ref (q 0)), (1, .int x1), (2, .ref qo)] := hl
  unfold pL_choose at h
  rcases hc : pX6_choose C x1 with _ | (⟨ek, eC⟩ | r)
  · rw [hc] at h; cases h
  · rw [hc] at h
    by_cases h0 : ek = 1
    · subst h0
      have h : some ((1 : Int32), (eC, o)) = some out := h
      refine lv_aload_n hx hb dL_choose_0 rfl (lv_at hl 2 rfl) ?_
      refine lv_iconst (v := 0) hx hb dL_choose_1 (by decide) ?_
      refine lv_aload_n hx hb dL_choose_2 rfl (lv_at hl 0 rfl) ?_
      refine lv_iload_n hx hb dL_choose_3 rfl (lv_at hl 1 rfl) ?_
      refine x_call (Wd := CW G q) (e' := (1, eC)) [] (OW G qo o) (vx_runV (As := [.int x1]) (rest := [.int 0, .ref qo]) ⟨hx, hb, hml, hown, hts⟩ (xX6_choose l hl0 G q C _ x1 (1, eC) hc) (cwV 1 hts gL_choose_X6_choose rfl rfl rfl (by decide +kernel) ⟨Nat.le_of_ble_eq_true rfl, Nat.le_of_ble_eq_true rfl⟩) (xV (fr_mid [] (OW G qo o) hP) (fr_midD [] (OW G qo o) hD) hS hK hA hE 7 0 rfl rfl) rfl rfl hl.1 rfl (lv_room (Nat.le_of_ble_eq_true rfl)) dL_choose_4 ⟨Nat.le_of_ble_eq_true rfl, Nat.le_of_ble_eq_true rfl⟩) hP hD hS hA (fun _ => rfl) (fun ce q9 H locs hP hD hS hce hcv hcl => ?_)
      refine vx_catch hown [] (⟨0, 9, 12, 13⟩ : ExceptionTableEntry) [(⟨0, 9, 15, 15⟩ : ExceptionTableEntry), (⟨0, 9, 18, 17⟩ : ExceptionTableEntry), (⟨0, 9, 21, 23⟩ : ExceptionTableEntry)] (htab.trans rfl) (fun _ hz => absurd hz List.not_mem_nil) (by decide) (by decide) (w_mem hts 1 rfl) (hK.2.at 60 rfl) hce hcv hcl ?_
      refine lv_astore_n (lv' := [(3, .ref q9), (0, .ref (q 0)), (1, .int x1), (2, .ref qo)]) hx hb dL_choose_12 rfl hl (by decide) rfl (fun ls hl => ?_)
      refine lv_iconst (v := 1) hx hb dL_choose_13 (by decide) ?_
      exact W.iret (v := 1) hx hb hr (fun t ht _ => ⟨⟨1, (eC, o), rfl, Option.some.inj h, by show va_P G.1 vwCl (XW G q qo (eC, o)) t.heap; rw [ht]; exact hP⟩, hS.F ht⟩) hS.2.2 dL_choose_14 hlocks
    by_cases h1 : ek = 2
    · subst h1
      have h : some ((2 : Int32), (eC, o)) = some out := h
      refine lv_aload_n hx hb dL_choose_0 rfl (lv_at hl 2 rfl) ?_
      refine lv_iconst (v := 0) hx hb dL_choose_1 (by decide) ?_
      refine lv_aload_n hx hb dL_choose_2 rfl (lv_at hl 0 rfl) ?_
      refine lv_iload_n hx hb dL_choose_3 rfl (lv_at hl 1 rfl) ?_
      refine x_call (Wd := CW G q) (e' := (2, eC)) [] (OW G qo o) (vx_runV (As := [.int x1]) (rest := [.int 0, .ref qo]) ⟨hx, hb, hml, hown, hts⟩ (xX6_choose l hl0 G q C _ x1 (2, eC) hc) (cwV 1 hts gL_choose_X6_choose rfl rfl rfl (by decide +kernel) ⟨Nat.le_of_ble_eq_true rfl, Nat.le_of_ble_eq_true rfl⟩) (xV (fr_mid [] (OW G qo o) hP) (fr_midD [] (OW G qo o) hD) hS hK hA hE 7 0 rfl rfl) rfl rfl hl.1 rfl (lv_room (Nat.le_of_ble_eq_true rfl)) dL_choose_4 ⟨Nat.le_of_ble_eq_true rfl, Nat.le_of_ble_eq_true rfl⟩) hP hD hS hA (fun _ => rfl) (fun ce q9 H locs hP hD hS hce hcv hcl => ?_)
      refine vx_catch hown [(⟨0, 9, 12, 13⟩ : ExceptionTableEntry)] (⟨0, 9, 15, 15⟩ : ExceptionTableEntry) [(⟨0, 9, 18, 17⟩ : ExceptionTableEntry), (⟨0, 9, 21, 23⟩ : ExceptionTableEntry)] (htab.trans rfl) (List.forall_mem_cons.mpr ⟨Or.inr ⟨by decide, "java/lang/IndexOutOfBoundsException", (w_mem hts 1 rfl), hE.2.2.2 2 1 ⟨by decide, by decide⟩ ⟨by decide, by decide⟩ (by decide)⟩, fun _ hz => absurd hz List.not_mem_nil⟩) (by decide) (by decide) (w_mem hK.2.all 66 rfl) (hK.2.at 61 rfl) hce hcv hcl ?_
      refine lv_astore_n (lv' := [(3, .ref q9), (0, .ref (q 0)), (1, .int x1), (2, .ref qo)]) hx hb dL_choose_15 rfl hl (by decide) rfl (fun ls hl => ?_)
      refine lv_iconst (v := 2) hx hb dL_choose_16 (by decide) ?_
      exact W.iret (v := 2) hx hb hr (fun t ht _ => ⟨⟨2, (eC, o), rfl, Option.some.inj h, by show va_P G.1 vwCl (XW G q qo (eC, o)) t.heap; rw [ht]; exact hP⟩, hS.F ht⟩) hS.2.2 dL_choose_17 hlocks
    by_cases h2 : ek = 3
    · subst h2
      have h : some ((3 : Int32), (eC, o)) = some out := h
      refine lv_aload_n hx hb dL_choose_0 rfl (lv_at hl 2 rfl) ?_
      refine lv_iconst (v := 0) hx hb dL_choose_1 (by decide) ?_
      refine lv_aload_n hx hb dL_choose_2 rfl (lv_at hl 0 rfl) ?_
      refine lv_iload_n hx hb dL_choose_3 rfl (lv_at hl 1 rfl) ?_
      refine x_call (Wd := CW G q) (e' := (3, eC)) [] (OW G qo o) (vx_runV (As := [.int x1]) (rest := [.int 0, .ref qo]) ⟨hx, hb, hml, hown, hts⟩ (xX6_choose l hl0 G q C _ x1 (3, eC) hc) (cwV 1 hts gL_choose_X6_choose rfl rfl rfl (by decide +kernel) ⟨Nat.le_of_ble_eq_true rfl, Nat.le_of_ble_eq_true rfl⟩) (xV (fr_mid [] (OW G qo o) hP) (fr_midD [] (OW G qo o) hD) hS hK hA hE 7 0 rfl rfl) rfl rfl hl.1 rfl (lv_room (Nat.le_of_ble_eq_true rfl)) dL_choose_4 ⟨Nat.le_of_ble_eq_true rfl, Nat.le_of_ble_eq_true rfl⟩) hP hD hS hA (fun _ => rfl) (fun ce q9 H locs hP hD hS hce hcv hcl => ?_)
      refine vx_catch hown [(⟨0, 9, 12, 13⟩ : ExceptionTableEntry), (⟨0, 9, 15, 15⟩ : ExceptionTableEntry)] (⟨0, 9, 18, 17⟩ : ExceptionTableEntry) [(⟨0, 9, 21, 23⟩ : ExceptionTableEntry)] (htab.trans rfl) (List.forall_mem_cons.mpr ⟨Or.inr ⟨by decide, "java/lang/IndexOutOfBoundsException", (w_mem hts 1 rfl), hE.2.2.2 3 1 ⟨by decide, by decide⟩ ⟨by decide, by decide⟩ (by decide)⟩, List.forall_mem_cons.mpr ⟨Or.inr ⟨by decide, "java/lang/IllegalArgumentException", (w_mem hK.2.all 66 rfl), hE.2.2.2 3 2 ⟨by decide, by decide⟩ ⟨by decide, by decide⟩ (by decide)⟩, fun _ hz => absurd hz List.not_mem_nil⟩⟩) (by decide) (by decide) (w_mem hK.2.all 67 rfl) (hK.2.at 62 rfl) hce hcv hcl ?_
      refine lv_astore_n (lv' := [(3, .ref q9), (0, .ref (q 0)), (1, .int x1), (2, .ref qo)]) hx hb dL_choose_18 rfl hl (by decide) rfl (fun ls hl => ?_)
      refine lv_iconst (v := 3) hx hb dL_choose_19 (by decide) ?_
      exact W.iret (v := 3) hx hb hr (fun t ht _ => ⟨⟨3, (eC, o), rfl, Option.some.inj h, by show va_P G.1 vwCl (XW G q qo (eC, o)) t.heap; rw [ht]; exact hP⟩, hS.F ht⟩) hS.2.2 dL_choose_20 hlocks
    by_cases h3 : ek = 4
    · subst h3
      have h : some ((4 : Int32), (eC, o)) = some out := h
      refine lv_aload_n hx hb dL_choose_0 rfl (lv_at hl 2 rfl) ?_
      refine lv_iconst (v := 0) hx hb dL_choose_1 (by decide) ?_
      refine lv_aload_n hx hb dL_choose_2 rfl (lv_at hl 0 rfl) ?_
      refine lv_iload_n hx hb dL_choose_3 rfl (lv_at hl 1 rfl) ?_
      refine x_call (Wd := CW G q) (e' := (4, eC)) [] (OW G qo o) (vx_runV (As := [.int x1]) (rest := [.int 0, .ref qo]) ⟨hx, hb, hml, hown, hts⟩ (xX6_choose l hl0 G q C _ x1 (4, eC) hc) (cwV 1 hts gL_choose_X6_choose rfl rfl rfl (by decide +kernel) ⟨Nat.le_of_ble_eq_true rfl, Nat.le_of_ble_eq_true rfl⟩) (xV (fr_mid [] (OW G qo o) hP) (fr_midD [] (OW G qo o) hD) hS hK hA hE 7 0 rfl rfl) rfl rfl hl.1 rfl (lv_room (Nat.le_of_ble_eq_true rfl)) dL_choose_4 ⟨Nat.le_of_ble_eq_true rfl, Nat.le_of_ble_eq_true rfl⟩) hP hD hS hA (fun _ => rfl) (fun ce q9 H locs hP hD hS hce hcv hcl => ?_)
      refine vx_catch hown [(⟨0, 9, 12, 13⟩ : ExceptionTableEntry), (⟨0, 9, 15, 15⟩ : ExceptionTableEntry), (⟨0, 9, 18, 17⟩ : ExceptionTableEntry)] (⟨0, 9, 21, 23⟩ : ExceptionTableEntry) [] (htab.trans rfl) (List.forall_mem_cons.mpr ⟨Or.inr ⟨by decide, "java/lang/IndexOutOfBoundsException", (w_mem hts 1 rfl), hE.2.2.2 4 1 ⟨by decide, by decide⟩ ⟨by decide, by decide⟩ (by decide)⟩, List.forall_mem_cons.mpr ⟨Or.inr ⟨by decide, "java/lang/IllegalArgumentException", (w_mem hK.2.all 66 rfl), hE.2.2.2 4 2 ⟨by decide, by decide⟩ ⟨by decide, by decide⟩ (by decide)⟩, List.forall_mem_cons.mpr ⟨Or.inr ⟨by decide, "java/lang/IllegalStateException", (w_mem hK.2.all 67 rfl), hE.2.2.2 4 3 ⟨by decide, by decide⟩ ⟨by decide, by decide⟩ (by decide)⟩, fun _ hz => absurd hz List.not_mem_nil⟩⟩⟩) (by decide) (by decide) (w_mem hK.2.all 68 rfl) (hK.2.at 63 rfl) hce hcv hcl ?_
      refine lv_astore_n (lv' := [(3, .ref q9), (0, .ref (q 0)), (1, .int x1), (2, .ref qo)]) hx hb dL_choose_21 rfl hl (by decide) rfl (fun ls hl => ?_)
      refine lv_iconst (v := 4) hx hb dL_choose_22 (by decide) ?_
      exact W.iret (v := 4) hx hb hr (fun t ht _ => ⟨⟨4, (eC, o), rfl, Option.some.inj h, by show va_P G.1 vwCl (XW G q qo (eC, o)) t.heap; rw [ht]; exact hP⟩, hS.F ht⟩) hS.2.2 dL_choose_23 hlocks
    · exact absurd h (by simp [lresW, cdL_choose, h0, h1, h2, h3])
  · rw [hc] at h
    refine lv_aload_n hx hb dL_choose_0 rfl (lv_at hl 2 rfl) ?_
    refine lv_iconst (v := 0) hx hb dL_choose_1 (by decide) ?_
    refine lv_aload_n hx hb dL_choose_2 rfl (lv_at hl 0 rfl) ?_
    refine lv_iload_n hx hb dL_choose_3 rfl (lv_at hl 1 rfl) ?_
    refine wf_i (Wd := CW G q) [] (OW G qo o) (va_runV (As := [.int x1]) (rest := [.int 0, .ref qo]) ⟨hx, hb, hml, hown, hts⟩ (kX6_choose l G q C _ x1 r hc) (cwV 1 hts gL_choose_X6_choose rfl rfl rfl (by decide +kernel) ⟨Nat.le_of_ble_eq_true rfl, Nat.le_of_ble_eq_true rfl⟩) (wrV (fr_mid [] (OW G qo o) hP) (fr_midD [] (OW G qo o) hD) hK 7 0 rfl rfl) rfl rfl hl.1 rfl (lv_room (Nat.le_of_ble_eq_true rfl)) dL_choose_4 ⟨Nat.zero_le _, Nat.zero_le _⟩) hP hD hS hA (fun _ => rfl) (fun H locs hP hD hS => ?_)
    refine lv_i2l (v := Int32.toInt64 r.1) hx hb dL_choose_7 rfl ?_
    refine va_last (D := G.1) hx hb hK.1 hP hD hS 20 3 rfl rfl (by unfold vp_in; decide) dL_choose_8 (fun H locs hP hD hS => ?_)
    have hP : va_P G.1 vwCl (XW G q qo (r.2, vp_updL o 0 (Int32.toInt64 r.1))) H := hP
    refine lv_goto (tgt := 24) hx hb dL_choose_9 (by decide) ?_
    refine lv_iconst (v := 0) hx hb dL_choose_24 (by decide) ?_
    refine W.widen (k := 1) (n := 6) (Nat.le_of_ble_eq_true rfl) (Nat.le_of_ble_eq_true rfl) ?_
    have h : some ((0 : Int32), (r.2, vp_updL o 0 (Int32.toInt64 r.1))) = some out := h
    exact W.iret (v := 0) hx hb hr (fun t ht _ => ⟨⟨0, (r.2, vp_updL o 0 (Int32.toInt64 r.1)), rfl, Option.some.inj h, by show va_P G.1 vwCl (XW G q qo (r.2, vp_updL o 0 (Int32.toInt64 r.1))) t.heap; rw [ht]; exact hP⟩, hS.F ht⟩) hS.2.2 dL_choose_25 hlocks

def rmL_refuse : Room := { frames := 18, cells := 1, slots := 6, locals := 456 }
set_option maxHeartbeats 4000000 in
set_option maxRecDepth 100000 in
theorem kL_refuse (l : Launch) (hl0 : l.stackTraces = false) (G : GT) (q : Nat → Nat) (qo : Nat) (C : St) (o : Nat → Int64) (sz : Nat) (x1 : Int32) (out : Int32 × (St × (Nat → Int64))) (h : pL_refuse C o x1 = some out) : Met l yL_refuse wsL_refuse rmL_refuse (va_Pc [.ref (q 0), .int x1, .ref qo] (xP G (XW G q qo (C, o)) sz)) (va_Qi (fun r u => (r, u) = out) (fun u t => va_P G.1 vwCl (XW G q qo u) t.heap) (va_A (XW G q qo (C, o)) sz)) 1 6 (va_A (XW G q qo (C, o)) sz) := by
  refine va_MetW (cc := cL_refuse) (maxL := 4) (ret := (some .int)) (by decide) rfl ?_
  intro p e s m args below meth c s₁ B hml hv
  obtain ⟨rfl, ⟨hsz, hP, hK, hD0⟩, hE⟩ := hv
  have htab := vx_table (x := yL_refuse) B (atoms_spec (ws := wsL_refuse) B.pre _ List.mem_cons_self)
  have bx := bx_of B hml
  subst hsz
  have hD := hD0.self (sz := s.heap.size)
  generalize hAe : va_A (XW G q qo (C, o)) s.heap.size = A at hD hE ⊢
  have hA : ∀ q : Nat, s.heap.size ≤ q → A q := fun q h => by rw [← hAe]; exact Or.inr h
  have hS : va_S A s.heap s.heap [] := va_S.rf
  have hP : va_P G.1 vwCl ([] ++ (CW G q C ++ OW G qo o)) s.heap := hP
  have hD : va_D A ([] ++ (CW G q C ++ OW G qo o)) := hD
  obtain ⟨hx, hb, hr, hts, hown, hml, hlocks⟩ := id bx
  have hl := lv_entry ([.ref (q 0), .int x1, .ref qo]) (n := 4) (Nat.le_of_ble_eq_true rfl)
  rw [lg_entry_eq]
  generalize (lg_sl ([.ref (q 0), .int x1, .ref qo]) ++ List.replicate (4 - (lg_sl ([.ref (q 0), .int x1, .ref qo])).length) Slot.unset).toArray = ls at hl ⊢
  have hl : lv_has ls 4 [(0, .ref (q 0)), (1, .int x1), (2, .ref qo)] := hl
  unfold pL_refuse at h
  rcases hc : pX6_refuse C x1 with _ | (⟨ek, eC⟩ | r)
  · rw [hc] at h; cases h
  · rw [hc] at h
    by_cases h0 : ek = 1
    · subst h0
      have h : some ((1 : Int32), (eC, o)) = some out := h
      refine lv_aload_n hx hb dL_refuse_0 rfl (lv_at hl 2 rfl) ?_
      refine lv_iconst (v := 0) hx hb dL_refuse_1 (by decide) ?_
      refine lv_aload_n hx hb dL_refuse_2 rfl (lv_at hl 0 rfl) ?_
      refine lv_iload_n hx hb dL_refuse_3 rfl (lv_at hl 1 rfl) ?_
      refine x_call (Wd := CW G q) (e' := (1, eC)) [] (OW G qo o) (vx_runV (As := [.int x1]) (rest := [.int 0, .ref qo]) ⟨hx, hb, hml, hown, hts⟩ (xX6_refuse l hl0 G q C _ x1 (1, eC) hc) (cwV 1 hts gL_refuse_X6_refuse rfl rfl rfl (by decide +kernel) ⟨Nat.le_of_ble_eq_true rfl, Nat.le_of_ble_eq_true rfl⟩) (xV (fr_mid [] (OW G qo o) hP) (fr_midD [] (OW G qo o) hD) hS hK hA hE 7 0 rfl rfl) rfl rfl hl.1 rfl (lv_room (Nat.le_of_ble_eq_true rfl)) dL_refuse_4 ⟨Nat.le_of_ble_eq_true rfl, Nat.le_of_ble_eq_true rfl⟩) hP hD hS hA (fun _ => rfl) (fun ce q9 H locs hP hD hS hce hcv hcl => ?_)
      refine vx_catch hown [] (⟨0, 9, 12, 13⟩ : ExceptionTableEntry) [(⟨0, 9, 15, 15⟩ : ExceptionTableEntry), (⟨0, 9, 18, 17⟩ : ExceptionTableEntry), (⟨0, 9, 21, 23⟩ : ExceptionTableEntry)] (htab.trans rfl) (fun _ hz => absurd hz List.not_mem_nil) (by decide) (by decide) (w_mem hts 1 rfl) (hK.2.at 60 rfl) hce hcv hcl ?_
      refine lv_astore_n (lv' := [(3, .ref q9), (0, .ref (q 0)), (1, .int x1), (2, .ref qo)]) hx hb dL_refuse_12 rfl hl (by decide) rfl (fun ls hl => ?_)
      refine lv_iconst (v := 1) hx hb dL_refuse_13 (by decide) ?_
      exact W.iret (v := 1) hx hb hr (fun t ht _ => ⟨⟨1, (eC, o), rfl, Option.some.inj h, by show va_P G.1 vwCl (XW G q qo (eC, o)) t.heap; rw [ht]; exact hP⟩, hS.F ht⟩) hS.2.2 dL_refuse_14 hlocks
    by_cases h1 : ek = 2
    · subst h1
      have h : some ((2 : Int32), (eC, o)) = some out := h
      refine lv_aload_n hx hb dL_refuse_0 rfl (lv_at hl 2 rfl) ?_
      refine lv_iconst (v := 0) hx hb dL_refuse_1 (by decide) ?_
      refine lv_aload_n hx hb dL_refuse_2 rfl (lv_at hl 0 rfl) ?_
      refine lv_iload_n hx hb dL_refuse_3 rfl (lv_at hl 1 rfl) ?_
      refine x_call (Wd := CW G q) (e' := (2, eC)) [] (OW G qo o) (vx_runV (As := [.int x1]) (rest := [.int 0, .ref qo]) ⟨hx, hb, hml, hown, hts⟩ (xX6_refuse l hl0 G q C _ x1 (2, eC) hc) (cwV 1 hts gL_refuse_X6_refuse rfl rfl rfl (by decide +kernel) ⟨Nat.le_of_ble_eq_true rfl, Nat.le_of_ble_eq_true rfl⟩) (xV (fr_mid [] (OW G qo o) hP) (fr_midD [] (OW G qo o) hD) hS hK hA hE 7 0 rfl rfl) rfl rfl hl.1 rfl (lv_room (Nat.le_of_ble_eq_true rfl)) dL_refuse_4 ⟨Nat.le_of_ble_eq_true rfl, Nat.le_of_ble_eq_true rfl⟩) hP hD hS hA (fun _ => rfl) (fun ce q9 H locs hP hD hS hce hcv hcl => ?_)
      refine vx_catch hown [(⟨0, 9, 12, 13⟩ : ExceptionTableEntry)] (⟨0, 9, 15, 15⟩ : ExceptionTableEntry) [(⟨0, 9, 18, 17⟩ : ExceptionTableEntry), (⟨0, 9, 21, 23⟩ : ExceptionTableEntry)] (htab.trans rfl) (List.forall_mem_cons.mpr ⟨Or.inr ⟨by decide, "java/lang/IndexOutOfBoundsException", (w_mem hts 1 rfl), hE.2.2.2 2 1 ⟨by decide, by decide⟩ ⟨by decide, by decide⟩ (by decide)⟩, fun _ hz => absurd hz List.not_mem_nil⟩) (by decide) (by decide) (w_mem hK.2.all 66 rfl) (hK.2.at 61 rfl) hce hcv hcl ?_
      refine lv_astore_n (lv' := [(3, .ref q9), (0, .ref (q 0)), (1, .int x1), (2, .ref qo)]) hx hb dL_refuse_15 rfl hl (by decide) rfl (fun ls hl => ?_)
      refine lv_iconst (v := 2) hx hb dL_refuse_16 (by decide) ?_
      exact W.iret (v := 2) hx hb hr (fun t ht _ => ⟨⟨2, (eC, o), rfl, Option.some.inj h, by show va_P G.1 vwCl (XW G q qo (eC, o)) t.heap; rw [ht]; exact hP⟩, hS.F ht⟩) hS.2.2 dL_refuse_17 hlocks
    by_cases h2 : ek = 3
    · subst h2
      have h : some ((3 : Int32), (eC, o)) = some out := h
      refine lv_aload_n hx hb dL_refuse_0 rfl (lv_at hl 2 rfl) ?_
      refine lv_iconst (v := 0) hx hb dL_refuse_1 (by decide) ?_
      refine lv_aload_n hx hb dL_refuse_2 rfl (lv_at hl 0 rfl) ?_
      refine lv_iload_n hx hb dL_refuse_3 rfl (lv_at hl 1 rfl) ?_
      refine x_call (Wd := CW G q) (e' := (3, eC)) [] (OW G qo o) (vx_runV (As := [.int x1]) (rest := [.int 0, .ref qo]) ⟨hx, hb, hml, hown, hts⟩ (xX6_refuse l hl0 G q C _ x1 (3, eC) hc) (cwV 1 hts gL_refuse_X6_refuse rfl rfl rfl (by decide +kernel) ⟨Nat.le_of_ble_eq_true rfl, Nat.le_of_ble_eq_true rfl⟩) (xV (fr_mid [] (OW G qo o) hP) (fr_midD [] (OW G qo o) hD) hS hK hA hE 7 0 rfl rfl) rfl rfl hl.1 rfl (lv_room (Nat.le_of_ble_eq_true rfl)) dL_refuse_4 ⟨Nat.le_of_ble_eq_true rfl, Nat.le_of_ble_eq_true rfl⟩) hP hD hS hA (fun _ => rfl) (fun ce q9 H locs hP hD hS hce hcv hcl => ?_)
      refine vx_catch hown [(⟨0, 9, 12, 13⟩ : ExceptionTableEntry), (⟨0, 9, 15, 15⟩ : ExceptionTableEntry)] (⟨0, 9, 18, 17⟩ : ExceptionTableEntry) [(⟨0, 9, 21, 23⟩ : ExceptionTableEntry)] (htab.trans rfl) (List.forall_mem_cons.mpr ⟨Or.inr ⟨by decide, "java/lang/IndexOutOfBoundsException", (w_mem hts 1 rfl), hE.2.2.2 3 1 ⟨by decide, by decide⟩ ⟨by decide, by decide⟩ (by decide)⟩, List.forall_mem_cons.mpr ⟨Or.inr ⟨by decide, "java/lang/IllegalArgumentException", (w_mem hK.2.all 66 rfl), hE.2.2.2 3 2 ⟨by decide, by decide⟩ ⟨by decide, by decide⟩ (by decide)⟩, fun _ hz => absurd hz List.not_mem_nil⟩⟩) (by decide) (by decide) (w_mem hK.2.all 67 rfl) (hK.2.at 62 rfl) hce hcv hcl ?_
      refine lv_astore_n (lv' := [(3, .ref q9), (0, .ref (q 0)), (1, .int x1), (2, .ref qo)]) hx hb dL_refuse_18 rfl hl (by decide) rfl (fun ls hl => ?_)
      refine lv_iconst (v := 3) hx hb dL_refuse_19 (by decide) ?_
      exact W.iret (v := 3) hx hb hr (fun t ht _ => ⟨⟨3, (eC, o), rfl, Option.some.inj h, by show va_P G.1 vwCl (XW G q qo (eC, o)) t.heap; rw [ht]; exact hP⟩, hS.F ht⟩) hS.2.2 dL_refuse_20 hlocks
    by_cases h3 : ek = 4
    · subst h3
      have h : some ((4 : Int32), (eC, o)) = some out := h
      refine lv_aload_n hx hb dL_refuse_0 rfl (lv_at hl 2 rfl) ?_
      refine lv_iconst (v := 0) hx hb dL_refuse_1 (by decide) ?_
      refine lv_aload_n hx hb dL_refuse_2 rfl (lv_at hl 0 rfl) ?_
      refine lv_iload_n hx hb dL_refuse_3 rfl (lv_at hl 1 rfl) ?_
      refine x_call (Wd := CW G q) (e' := (4, eC)) [] (OW G qo o) (vx_runV (As := [.int x1]) (rest := [.int 0, .ref qo]) ⟨hx, hb, hml, hown, hts⟩ (xX6_refuse l hl0 G q C _ x1 (4, eC) hc) (cwV 1 hts gL_refuse_X6_refuse rfl rfl rfl (by decide +kernel) ⟨Nat.le_of_ble_eq_true rfl, Nat.le_of_ble_eq_true rfl⟩) (xV (fr_mid [] (OW G qo o) hP) (fr_midD [] (OW G qo o) hD) hS hK hA hE 7 0 rfl rfl) rfl rfl hl.1 rfl (lv_room (Nat.le_of_ble_eq_true rfl)) dL_refuse_4 ⟨Nat.le_of_ble_eq_true rfl, Nat.le_of_ble_eq_true rfl⟩) hP hD hS hA (fun _ => rfl) (fun ce q9 H locs hP hD hS hce hcv hcl => ?_)
      refine vx_catch hown [(⟨0, 9, 12, 13⟩ : ExceptionTableEntry), (⟨0, 9, 15, 15⟩ : ExceptionTableEntry), (⟨0, 9, 18, 17⟩ : ExceptionTableEntry)] (⟨0, 9, 21, 23⟩ : ExceptionTableEntry) [] (htab.trans rfl) (List.forall_mem_cons.mpr ⟨Or.inr ⟨by decide, "java/lang/IndexOutOfBoundsException", (w_mem hts 1 rfl), hE.2.2.2 4 1 ⟨by decide, by decide⟩ ⟨by decide, by decide⟩ (by decide)⟩, List.forall_mem_cons.mpr ⟨Or.inr ⟨by decide, "java/lang/IllegalArgumentException", (w_mem hK.2.all 66 rfl), hE.2.2.2 4 2 ⟨by decide, by decide⟩ ⟨by decide, by decide⟩ (by decide)⟩, List.forall_mem_cons.mpr ⟨Or.inr ⟨by decide, "java/lang/IllegalStateException", (w_mem hK.2.all 67 rfl), hE.2.2.2 4 3 ⟨by decide, by decide⟩ ⟨by decide, by decide⟩ (by decide)⟩, fun _ hz => absurd hz List.not_mem_nil⟩⟩⟩) (by decide) (by decide) (w_mem hK.2.all 68 rfl) (hK.2.at 63 rfl) hce hcv hcl ?_
      refine lv_astore_n (lv' := [(3, .ref q9), (0, .ref (q 0)), (1, .int x1), (2, .ref qo)]) hx hb dL_refuse_21 rfl hl (by decide) rfl (fun ls hl => ?_)
      refine lv_iconst (v := 4) hx hb dL_refuse_22 (by decide) ?_
      exact W.iret (v := 4) hx hb hr (fun t ht _ => ⟨⟨4, (eC, o), rfl, Option.some.inj h, by show va_P G.1 vwCl (XW G q qo (eC, o)) t.heap; rw [ht]; exact hP⟩, hS.F ht⟩) hS.2.2 dL_refuse_23 hlocks
    · exact absurd h (by simp [lresW, cdL_refuse, h0, h1, h2, h3])
  · rw [hc] at h
    refine lv_aload_n hx hb dL_refuse_0 rfl (lv_at hl 2 rfl) ?_
    refine lv_iconst (v := 0) hx hb dL_refuse_1 (by decide) ?_
    refine lv_aload_n hx hb dL_refuse_2 rfl (lv_at hl 0 rfl) ?_
    refine lv_iload_n hx hb dL_refuse_3 rfl (lv_at hl 1 rfl) ?_
    refine wf_i (Wd := CW G q) [] (OW G qo o) (va_runV (As := [.int x1]) (rest := [.int 0, .ref qo]) ⟨hx, hb, hml, hown, hts⟩ (kX6_refuse l G q C _ x1 r hc) (cwV 1 hts gL_refuse_X6_refuse rfl rfl rfl (by decide +kernel) ⟨Nat.le_of_ble_eq_true rfl, Nat.le_of_ble_eq_true rfl⟩) (wrV (fr_mid [] (OW G qo o) hP) (fr_midD [] (OW G qo o) hD) hK 7 0 rfl rfl) rfl rfl hl.1 rfl (lv_room (Nat.le_of_ble_eq_true rfl)) dL_refuse_4 ⟨Nat.zero_le _, Nat.zero_le _⟩) hP hD hS hA (fun _ => rfl) (fun H locs hP hD hS => ?_)
    refine lv_i2l (v := Int32.toInt64 r.1) hx hb dL_refuse_7 rfl ?_
    refine va_last (D := G.1) hx hb hK.1 hP hD hS 20 3 rfl rfl (by unfold vp_in; decide) dL_refuse_8 (fun H locs hP hD hS => ?_)
    have hP : va_P G.1 vwCl (XW G q qo (r.2, vp_updL o 0 (Int32.toInt64 r.1))) H := hP
    refine lv_goto (tgt := 24) hx hb dL_refuse_9 (by decide) ?_
    refine lv_iconst (v := 0) hx hb dL_refuse_24 (by decide) ?_
    refine W.widen (k := 1) (n := 6) (Nat.le_of_ble_eq_true rfl) (Nat.le_of_ble_eq_true rfl) ?_
    have h : some ((0 : Int32), (r.2, vp_updL o 0 (Int32.toInt64 r.1))) = some out := h
    exact W.iret (v := 0) hx hb hr (fun t ht _ => ⟨⟨0, (r.2, vp_updL o 0 (Int32.toInt64 r.1)), rfl, Option.some.inj h, by show va_P G.1 vwCl (XW G q qo (r.2, vp_updL o 0 (Int32.toInt64 r.1))) t.heap; rw [ht]; exact hP⟩, hS.F ht⟩) hS.2.2 dL_refuse_25 hlocks

def rmL_retract : Room := { frames := 8, cells := 1, slots := 6, locals := 143 }
set_option maxHeartbeats 4000000 in
set_option maxRecDepth 100000 in
theorem kL_retract (l : Launch) (hl0 : l.stackTraces = false) (G : GT) (q : Nat → Nat) (qo : Nat) (C : St) (o : Nat → Int64) (sz : Nat) (x1 : Int32) (out : Int32 × (St × (Nat → Int64))) (h : pL_retract C o x1 = some out) : Met l yL_retract wsL_retract rmL_retract (va_Pc [.ref (q 0), .int x1, .ref qo] (xP G (XW G q qo (C, o)) sz)) (va_Qi (fun r u => (r, u) = out) (fun u t => va_P G.1 vwCl (XW G q qo u) t.heap) (va_A (XW G q qo (C, o)) sz)) 1 6 (va_A (XW G q qo (C, o)) sz) := by
  refine va_MetW (cc := cL_retract) (maxL := 4) (ret := (some .int)) (by decide) rfl ?_
  intro p e s m args below meth c s₁ B hml hv
  obtain ⟨rfl, ⟨hsz, hP, hK, hD0⟩, hE⟩ := hv
  have htab := vx_table (x := yL_retract) B (atoms_spec (ws := wsL_retract) B.pre _ List.mem_cons_self)
  have bx := bx_of B hml
  subst hsz
  have hD := hD0.self (sz := s.heap.size)
  generalize hAe : va_A (XW G q qo (C, o)) s.heap.size = A at hD hE ⊢
  have hA : ∀ q : Nat, s.heap.size ≤ q → A q := fun q h => by rw [← hAe]; exact Or.inr h
  have hS : va_S A s.heap s.heap [] := va_S.rf
  have hP : va_P G.1 vwCl ([] ++ (CW G q C ++ OW G qo o)) s.heap := hP
  have hD : va_D A ([] ++ (CW G q C ++ OW G qo o)) := hD
  obtain ⟨hx, hb, hr, hts, hown, hml, hlocks⟩ := id bx
  have hl := lv_entry ([.ref (q 0), .int x1, .ref qo]) (n := 4) (Nat.le_of_ble_eq_true rfl)
  rw [lg_entry_eq]
  generalize (lg_sl ([.ref (q 0), .int x1, .ref qo]) ++ List.replicate (4 - (lg_sl ([.ref (q 0), .int x1, .ref qo])).length) Slot.unset).toArray = ls at hl ⊢
  have hl : lv_has ls 4 [(0, .ref (q 0)), (1, .int x1), (2, .ref qo)] := hl
  unfold pL_retract at h
  rcases hc : pX6_retract C x1 with _ | (⟨ek, eC⟩ | r)
  · rw [hc] at h; cases h
  · rw [hc] at h
    by_cases h0 : ek = 1
    · subst h0
      have h : some ((1 : Int32), (eC, o)) = some out := h
      refine lv_aload_n hx hb dL_retract_0 rfl (lv_at hl 2 rfl) ?_
      refine lv_iconst (v := 0) hx hb dL_retract_1 (by decide) ?_
      refine lv_aload_n hx hb dL_retract_2 rfl (lv_at hl 0 rfl) ?_
      refine lv_iload_n hx hb dL_retract_3 rfl (lv_at hl 1 rfl) ?_
      refine x_call (Wd := CW G q) (e' := (1, eC)) [] (OW G qo o) (vx_runV (As := [.int x1]) (rest := [.int 0, .ref qo]) ⟨hx, hb, hml, hown, hts⟩ (xX6_retract l hl0 G q C _ x1 (1, eC) hc) (cwV 1 hts gL_retract_X6_retract rfl rfl rfl (by decide +kernel) ⟨Nat.le_of_ble_eq_true rfl, Nat.le_of_ble_eq_true rfl⟩) (xV (fr_mid [] (OW G qo o) hP) (fr_midD [] (OW G qo o) hD) hS hK hA hE 7 0 rfl rfl) rfl rfl hl.1 rfl (lv_room (Nat.le_of_ble_eq_true rfl)) dL_retract_4 ⟨Nat.le_of_ble_eq_true rfl, Nat.le_of_ble_eq_true rfl⟩) hP hD hS hA (fun _ => rfl) (fun ce q9 H locs hP hD hS hce hcv hcl => ?_)
      refine vx_catch hown [] (⟨0, 9, 12, 13⟩ : ExceptionTableEntry) [(⟨0, 9, 15, 17⟩ : ExceptionTableEntry)] (htab.trans rfl) (fun _ hz => absurd hz List.not_mem_nil) (by decide) (by decide) (w_mem hts 1 rfl) (hK.2.at 60 rfl) hce hcv hcl ?_
      refine lv_astore_n (lv' := [(3, .ref q9), (0, .ref (q 0)), (1, .int x1), (2, .ref qo)]) hx hb dL_retract_12 rfl hl (by decide) rfl (fun ls hl => ?_)
      refine lv_iconst (v := 1) hx hb dL_retract_13 (by decide) ?_
      exact W.iret (v := 1) hx hb hr (fun t ht _ => ⟨⟨1, (eC, o), rfl, Option.some.inj h, by show va_P G.1 vwCl (XW G q qo (eC, o)) t.heap; rw [ht]; exact hP⟩, hS.F ht⟩) hS.2.2 dL_retract_14 hlocks
    by_cases h1 : ek = 3
    · subst h1
      have h : some ((2 : Int32), (eC, o)) = some out := h
      refine lv_aload_n hx hb dL_retract_0 rfl (lv_at hl 2 rfl) ?_
      refine lv_iconst (v := 0) hx hb dL_retract_1 (by decide) ?_
      refine lv_aload_n hx hb dL_retract_2 rfl (lv_at hl 0 rfl) ?_
      refine lv_iload_n hx hb dL_retract_3 rfl (lv_at hl 1 rfl) ?_
      refine x_call (Wd := CW G q) (e' := (3, eC)) [] (OW G qo o) (vx_runV (As := [.int x1]) (rest := [.int 0, .ref qo]) ⟨hx, hb, hml, hown, hts⟩ (xX6_retract l hl0 G q C _ x1 (3, eC) hc) (cwV 1 hts gL_retract_X6_retract rfl rfl rfl (by decide +kernel) ⟨Nat.le_of_ble_eq_true rfl, Nat.le_of_ble_eq_true rfl⟩) (xV (fr_mid [] (OW G qo o) hP) (fr_midD [] (OW G qo o) hD) hS hK hA hE 7 0 rfl rfl) rfl rfl hl.1 rfl (lv_room (Nat.le_of_ble_eq_true rfl)) dL_retract_4 ⟨Nat.le_of_ble_eq_true rfl, Nat.le_of_ble_eq_true rfl⟩) hP hD hS hA (fun _ => rfl) (fun ce q9 H locs hP hD hS hce hcv hcl => ?_)
      refine vx_catch hown [(⟨0, 9, 12, 13⟩ : ExceptionTableEntry)] (⟨0, 9, 15, 17⟩ : ExceptionTableEntry) [] (htab.trans rfl) (List.forall_mem_cons.mpr ⟨Or.inr ⟨by decide, "java/lang/IndexOutOfBoundsException", (w_mem hts 1 rfl), hE.2.2.2 3 1 ⟨by decide, by decide⟩ ⟨by decide, by decide⟩ (by decide)⟩, fun _ hz => absurd hz List.not_mem_nil⟩) (by decide) (by decide) (w_mem hK.2.all 67 rfl) (hK.2.at 62 rfl) hce hcv hcl ?_
      refine lv_astore_n (lv' := [(3, .ref q9), (0, .ref (q 0)), (1, .int x1), (2, .ref qo)]) hx hb dL_retract_15 rfl hl (by decide) rfl (fun ls hl => ?_)
      refine lv_iconst (v := 2) hx hb dL_retract_16 (by decide) ?_
      exact W.iret (v := 2) hx hb hr (fun t ht _ => ⟨⟨2, (eC, o), rfl, Option.some.inj h, by show va_P G.1 vwCl (XW G q qo (eC, o)) t.heap; rw [ht]; exact hP⟩, hS.F ht⟩) hS.2.2 dL_retract_17 hlocks
    · exact absurd h (by simp [lresW, cdL_retract, h0, h1])
  · rw [hc] at h
    refine lv_aload_n hx hb dL_retract_0 rfl (lv_at hl 2 rfl) ?_
    refine lv_iconst (v := 0) hx hb dL_retract_1 (by decide) ?_
    refine lv_aload_n hx hb dL_retract_2 rfl (lv_at hl 0 rfl) ?_
    refine lv_iload_n hx hb dL_retract_3 rfl (lv_at hl 1 rfl) ?_
    refine wf_i (Wd := CW G q) [] (OW G qo o) (va_runV (As := [.int x1]) (rest := [.int 0, .ref qo]) ⟨hx, hb, hml, hown, hts⟩ (kX6_retract l G q C _ x1 r hc) (cwV 1 hts gL_retract_X6_retract rfl rfl rfl (by decide +kernel) ⟨Nat.le_of_ble_eq_true rfl, Nat.le_of_ble_eq_true rfl⟩) (wrV (fr_mid [] (OW G qo o) hP) (fr_midD [] (OW G qo o) hD) hK 7 0 rfl rfl) rfl rfl hl.1 rfl (lv_room (Nat.le_of_ble_eq_true rfl)) dL_retract_4 ⟨Nat.zero_le _, Nat.zero_le _⟩) hP hD hS hA (fun _ => rfl) (fun H locs hP hD hS => ?_)
    refine lv_i2l (v := Int32.toInt64 r.1) hx hb dL_retract_7 rfl ?_
    refine va_last (D := G.1) hx hb hK.1 hP hD hS 20 3 rfl rfl (by unfold vp_in; decide) dL_retract_8 (fun H locs hP hD hS => ?_)
    have hP : va_P G.1 vwCl (XW G q qo (r.2, vp_updL o 0 (Int32.toInt64 r.1))) H := hP
    refine lv_goto (tgt := 18) hx hb dL_retract_9 (by decide) ?_
    refine lv_iconst (v := 0) hx hb dL_retract_18 (by decide) ?_
    refine W.widen (k := 1) (n := 6) (Nat.le_of_ble_eq_true rfl) (Nat.le_of_ble_eq_true rfl) ?_
    have h : some ((0 : Int32), (r.2, vp_updL o 0 (Int32.toInt64 r.1))) = some out := h
    exact W.iret (v := 0) hx hb hr (fun t ht _ => ⟨⟨0, (r.2, vp_updL o 0 (Int32.toInt64 r.1)), rfl, Option.some.inj h, by show va_P G.1 vwCl (XW G q qo (r.2, vp_updL o 0 (Int32.toInt64 r.1))) t.heap; rw [ht]; exact hP⟩, hS.F ht⟩) hS.2.2 dL_retract_19 hlocks

def rmL_stateOf : Room := { frames := 18, cells := 1, slots := 6, locals := 458 }
set_option maxHeartbeats 4000000 in
set_option maxRecDepth 100000 in
theorem kL_stateOf (l : Launch) (hl0 : l.stackTraces = false) (G : GT) (q : Nat → Nat) (qo : Nat) (C : St) (o : Nat → Int64) (sz : Nat) (x1 : Int32) (out : Int32 × (St × (Nat → Int64))) (h : pL_stateOf C o x1 = some out) : Met l yL_stateOf wsL_stateOf rmL_stateOf (va_Pc [.ref (q 0), .int x1, .ref qo] (xP G (XW G q qo (C, o)) sz)) (va_Qi (fun r u => (r, u) = out) (fun u t => va_P G.1 vwCl (XW G q qo u) t.heap) (va_A (XW G q qo (C, o)) sz)) 1 6 (va_A (XW G q qo (C, o)) sz) := by
  refine va_MetW (cc := cL_stateOf) (maxL := 4) (ret := (some .int)) (by decide) rfl ?_
  intro p e s m args below meth c s₁ B hml hv
  obtain ⟨rfl, ⟨hsz, hP, hK, hD0⟩, hE⟩ := hv
  have htab := vx_table (x := yL_stateOf) B (atoms_spec (ws := wsL_stateOf) B.pre _ List.mem_cons_self)
  have bx := bx_of B hml
  subst hsz
  have hD := hD0.self (sz := s.heap.size)
  generalize hAe : va_A (XW G q qo (C, o)) s.heap.size = A at hD hE ⊢
  have hA : ∀ q : Nat, s.heap.size ≤ q → A q := fun q h => by rw [← hAe]; exact Or.inr h
  have hS : va_S A s.heap s.heap [] := va_S.rf
  have hP : va_P G.1 vwCl ([] ++ (CW G q C ++ OW G qo o)) s.heap := hP
  have hD : va_D A ([] ++ (CW G q C ++ OW G qo o)) := hD
  obtain ⟨hx, hb, hr, hts, hown, hml, hlocks⟩ := id bx
  have hl := lv_entry ([.ref (q 0), .int x1, .ref qo]) (n := 4) (Nat.le_of_ble_eq_true rfl)
  rw [lg_entry_eq]
  generalize (lg_sl ([.ref (q 0), .int x1, .ref qo]) ++ List.replicate (4 - (lg_sl ([.ref (q 0), .int x1, .ref qo])).length) Slot.unset).toArray = ls at hl ⊢
  have hl : lv_has ls 4 [(0, .ref (q 0)), (1, .int x1), (2, .ref qo)] := hl
  unfold pL_stateOf at h
  rcases hc : pX6_stateOf C x1 with _ | (ek | r)
  · rw [hc] at h; cases h
  · rw [hc] at h
    by_cases h0 : ek = 1
    · subst h0
      have h : some ((1 : Int32), (C, o)) = some out := h
      refine lv_aload_n hx hb dL_stateOf_0 rfl (lv_at hl 2 rfl) ?_
      refine lv_iconst (v := 0) hx hb dL_stateOf_1 (by decide) ?_
      refine lv_aload_n hx hb dL_stateOf_2 rfl (lv_at hl 0 rfl) ?_
      refine lv_iload_n hx hb dL_stateOf_3 rfl (lv_at hl 1 rfl) ?_
      refine x_call (Wd := CW G q) (e' := (1, C)) [] (OW G qo o) (vx_runV (As := [.int x1]) (rest := [.int 0, .ref qo]) ⟨hx, hb, hml, hown, hts⟩ (xX6_stateOf l hl0 G q C _ x1 1 hc) (cwV 1 hts gL_stateOf_X6_stateOf rfl rfl rfl (by decide +kernel) ⟨Nat.le_of_ble_eq_true rfl, Nat.le_of_ble_eq_true rfl⟩) (xV (fr_mid [] (OW G qo o) hP) (fr_midD [] (OW G qo o) hD) hS hK hA hE 7 0 rfl rfl) rfl rfl hl.1 rfl (lv_room (Nat.le_of_ble_eq_true rfl)) dL_stateOf_4 ⟨Nat.le_of_ble_eq_true rfl, Nat.le_of_ble_eq_true rfl⟩) hP hD hS hA (fun _ => rfl) (fun ce q9 H locs hP hD hS hce hcv hcl => ?_)
      refine vx_catch hown [] (⟨0, 9, 12, 13⟩ : ExceptionTableEntry) [] (htab.trans rfl) (fun _ hz => absurd hz List.not_mem_nil) (by decide) (by decide) (w_mem hts 1 rfl) (hK.2.at 60 rfl) hce hcv hcl ?_
      refine lv_astore_n (lv' := [(3, .ref q9), (0, .ref (q 0)), (1, .int x1), (2, .ref qo)]) hx hb dL_stateOf_12 rfl hl (by decide) rfl (fun ls hl => ?_)
      refine lv_iconst (v := 1) hx hb dL_stateOf_13 (by decide) ?_
      exact W.iret (v := 1) hx hb hr (fun t ht _ => ⟨⟨1, (C, o), rfl, Option.some.inj h, by show va_P G.1 vwCl (XW G q qo (C, o)) t.heap; rw [ht]; exact hP⟩, hS.F ht⟩) hS.2.2 dL_stateOf_14 hlocks
    · exact absurd h (by simp [lresR, cdL_stateOf, h0])
  · rw [hc] at h
    refine lv_aload_n hx hb dL_stateOf_0 rfl (lv_at hl 2 rfl) ?_
    refine lv_iconst (v := 0) hx hb dL_stateOf_1 (by decide) ?_
    refine lv_aload_n hx hb dL_stateOf_2 rfl (lv_at hl 0 rfl) ?_
    refine lv_iload_n hx hb dL_stateOf_3 rfl (lv_at hl 1 rfl) ?_
    refine ro_i (va_runV (As := [.int x1]) (rest := [.int 0, .ref qo]) ⟨hx, hb, hml, hown, hts⟩ (kX6_stateOf l G q C x1 r hc) (cwV 1 hts gL_stateOf_X6_stateOf rfl rfl rfl (by decide +kernel) ⟨Nat.le_of_ble_eq_true rfl, Nat.le_of_ble_eq_true rfl⟩) (roV (fr_mid [] (OW G qo o) hP) hK 7 0 rfl rfl) rfl rfl hl.1 rfl (lv_room (Nat.le_of_ble_eq_true rfl)) dL_stateOf_4 ⟨Nat.zero_le _, Nat.zero_le _⟩) ?_
    refine lv_i2l (v := Int32.toInt64 r) hx hb dL_stateOf_7 rfl ?_
    refine va_last (D := G.1) hx hb hK.1 hP hD hS 20 3 rfl rfl (by unfold vp_in; decide) dL_stateOf_8 (fun H locs hP hD hS => ?_)
    have hP : va_P G.1 vwCl (XW G q qo (C, vp_updL o 0 (Int32.toInt64 r))) H := hP
    refine lv_goto (tgt := 15) hx hb dL_stateOf_9 (by decide) ?_
    refine lv_iconst (v := 0) hx hb dL_stateOf_15 (by decide) ?_
    refine W.widen (k := 1) (n := 6) (Nat.le_of_ble_eq_true rfl) (Nat.le_of_ble_eq_true rfl) ?_
    have h : some ((0 : Int32), (C, vp_updL o 0 (Int32.toInt64 r))) = some out := h
    exact W.iret (v := 0) hx hb hr (fun t ht _ => ⟨⟨0, (C, vp_updL o 0 (Int32.toInt64 r)), rfl, Option.some.inj h, by show va_P G.1 vwCl (XW G q qo (C, vp_updL o 0 (Int32.toInt64 r))) t.heap; rw [ht]; exact hP⟩, hS.F ht⟩) hS.2.2 dL_stateOf_16 hlocks

def rmL_stateByAll : Room := { frames := 8, cells := 1, slots := 6, locals := 156 }
set_option maxHeartbeats 4000000 in
set_option maxRecDepth 100000 in
theorem kL_stateByAll (l : Launch) (hl0 : l.stackTraces = false) (G : GT) (q : Nat → Nat) (qo : Nat) (C : St) (o : Nat → Int64) (sz : Nat) (x1 : Int32) (out : Int32 × (St × (Nat → Int64))) (h : pL_stateByAll C o x1 = some out) : Met l yL_stateByAll wsL_stateByAll rmL_stateByAll (va_Pc [.ref (q 0), .int x1, .ref qo] (xP G (XW G q qo (C, o)) sz)) (va_Qi (fun r u => (r, u) = out) (fun u t => va_P G.1 vwCl (XW G q qo u) t.heap) (va_A (XW G q qo (C, o)) sz)) 1 6 (va_A (XW G q qo (C, o)) sz) := by
  refine va_MetW (cc := cL_stateByAll) (maxL := 4) (ret := (some .int)) (by decide) rfl ?_
  intro p e s m args below meth c s₁ B hml hv
  obtain ⟨rfl, ⟨hsz, hP, hK, hD0⟩, hE⟩ := hv
  have htab := vx_table (x := yL_stateByAll) B (atoms_spec (ws := wsL_stateByAll) B.pre _ List.mem_cons_self)
  have bx := bx_of B hml
  subst hsz
  have hD := hD0.self (sz := s.heap.size)
  generalize hAe : va_A (XW G q qo (C, o)) s.heap.size = A at hD hE ⊢
  have hA : ∀ q : Nat, s.heap.size ≤ q → A q := fun q h => by rw [← hAe]; exact Or.inr h
  have hS : va_S A s.heap s.heap [] := va_S.rf
  have hP : va_P G.1 vwCl ([] ++ (CW G q C ++ OW G qo o)) s.heap := hP
  have hD : va_D A ([] ++ (CW G q C ++ OW G qo o)) := hD
  obtain ⟨hx, hb, hr, hts, hown, hml, hlocks⟩ := id bx
  have hl := lv_entry ([.ref (q 0), .int x1, .ref qo]) (n := 4) (Nat.le_of_ble_eq_true rfl)
  rw [lg_entry_eq]
  generalize (lg_sl ([.ref (q 0), .int x1, .ref qo]) ++ List.replicate (4 - (lg_sl ([.ref (q 0), .int x1, .ref qo])).length) Slot.unset).toArray = ls at hl ⊢
  have hl : lv_has ls 4 [(0, .ref (q 0)), (1, .int x1), (2, .ref qo)] := hl
  unfold pL_stateByAll at h
  rcases hc : pX6_stateByAll C x1 with _ | (ek | r)
  · rw [hc] at h; cases h
  · rw [hc] at h
    by_cases h0 : ek = 1
    · subst h0
      have h : some ((1 : Int32), (C, o)) = some out := h
      refine lv_aload_n hx hb dL_stateByAll_0 rfl (lv_at hl 2 rfl) ?_
      refine lv_iconst (v := 0) hx hb dL_stateByAll_1 (by decide) ?_
      refine lv_aload_n hx hb dL_stateByAll_2 rfl (lv_at hl 0 rfl) ?_
      refine lv_iload_n hx hb dL_stateByAll_3 rfl (lv_at hl 1 rfl) ?_
      refine x_call (Wd := CW G q) (e' := (1, C)) [] (OW G qo o) (vx_runV (As := [.int x1]) (rest := [.int 0, .ref qo]) ⟨hx, hb, hml, hown, hts⟩ (xX6_stateByAll l hl0 G q C _ x1 1 hc) (cwV 1 hts gL_stateByAll_X6_stateByAll rfl rfl rfl (by decide +kernel) ⟨Nat.le_of_ble_eq_true rfl, Nat.le_of_ble_eq_true rfl⟩) (xV (fr_mid [] (OW G qo o) hP) (fr_midD [] (OW G qo o) hD) hS hK hA hE 7 0 rfl rfl) rfl rfl hl.1 rfl (lv_room (Nat.le_of_ble_eq_true rfl)) dL_stateByAll_4 ⟨Nat.le_of_ble_eq_true rfl, Nat.le_of_ble_eq_true rfl⟩) hP hD hS hA (fun _ => rfl) (fun ce q9 H locs hP hD hS hce hcv hcl => ?_)
      refine vx_catch hown [] (⟨0, 9, 12, 13⟩ : ExceptionTableEntry) [] (htab.trans rfl) (fun _ hz => absurd hz List.not_mem_nil) (by decide) (by decide) (w_mem hts 1 rfl) (hK.2.at 60 rfl) hce hcv hcl ?_
      refine lv_astore_n (lv' := [(3, .ref q9), (0, .ref (q 0)), (1, .int x1), (2, .ref qo)]) hx hb dL_stateByAll_12 rfl hl (by decide) rfl (fun ls hl => ?_)
      refine lv_iconst (v := 1) hx hb dL_stateByAll_13 (by decide) ?_
      exact W.iret (v := 1) hx hb hr (fun t ht _ => ⟨⟨1, (C, o), rfl, Option.some.inj h, by show va_P G.1 vwCl (XW G q qo (C, o)) t.heap; rw [ht]; exact hP⟩, hS.F ht⟩) hS.2.2 dL_stateByAll_14 hlocks
    · exact absurd h (by simp [lresR, cdL_stateByAll, h0])
  · rw [hc] at h
    refine lv_aload_n hx hb dL_stateByAll_0 rfl (lv_at hl 2 rfl) ?_
    refine lv_iconst (v := 0) hx hb dL_stateByAll_1 (by decide) ?_
    refine lv_aload_n hx hb dL_stateByAll_2 rfl (lv_at hl 0 rfl) ?_
    refine lv_iload_n hx hb dL_stateByAll_3 rfl (lv_at hl 1 rfl) ?_
    refine ro_i (va_runV (As := [.int x1]) (rest := [.int 0, .ref qo]) ⟨hx, hb, hml, hown, hts⟩ (kX6_stateByAll l G q C x1 r hc) (cwV 1 hts gL_stateByAll_X6_stateByAll rfl rfl rfl (by decide +kernel) ⟨Nat.le_of_ble_eq_true rfl, Nat.le_of_ble_eq_true rfl⟩) (roV (fr_mid [] (OW G qo o) hP) hK 7 0 rfl rfl) rfl rfl hl.1 rfl (lv_room (Nat.le_of_ble_eq_true rfl)) dL_stateByAll_4 ⟨Nat.zero_le _, Nat.zero_le _⟩) ?_
    refine lv_i2l (v := Int32.toInt64 r) hx hb dL_stateByAll_7 rfl ?_
    refine va_last (D := G.1) hx hb hK.1 hP hD hS 20 3 rfl rfl (by unfold vp_in; decide) dL_stateByAll_8 (fun H locs hP hD hS => ?_)
    have hP : va_P G.1 vwCl (XW G q qo (C, vp_updL o 0 (Int32.toInt64 r))) H := hP
    refine lv_goto (tgt := 15) hx hb dL_stateByAll_9 (by decide) ?_
    refine lv_iconst (v := 0) hx hb dL_stateByAll_15 (by decide) ?_
    refine W.widen (k := 1) (n := 6) (Nat.le_of_ble_eq_true rfl) (Nat.le_of_ble_eq_true rfl) ?_
    have h : some ((0 : Int32), (C, vp_updL o 0 (Int32.toInt64 r))) = some out := h
    exact W.iret (v := 0) hx hb hr (fun t ht _ => ⟨⟨0, (C, vp_updL o 0 (Int32.toInt64 r)), rfl, Option.some.inj h, by show va_P G.1 vwCl (XW G q qo (C, vp_updL o 0 (Int32.toInt64 r))) t.heap; rw [ht]; exact hP⟩, hS.F ht⟩) hS.2.2 dL_stateByAll_16 hlocks

def rmL_known : Room := { frames := 8, cells := 1, slots := 6, locals := 160 }
set_option maxHeartbeats 4000000 in
set_option maxRecDepth 100000 in
theorem kL_known (l : Launch) (hl0 : l.stackTraces = false) (G : GT) (q : Nat → Nat) (qo : Nat) (C : St) (o : Nat → Int64) (sz : Nat) (x1 : Int32) (out : Int32 × (St × (Nat → Int64))) (h : pL_known C o x1 = some out) : Met l yL_known wsL_known rmL_known (va_Pc [.ref (q 0), .int x1, .ref qo] (xP G (XW G q qo (C, o)) sz)) (va_Qi (fun r u => (r, u) = out) (fun u t => va_P G.1 vwCl (XW G q qo u) t.heap) (va_A (XW G q qo (C, o)) sz)) 1 6 (va_A (XW G q qo (C, o)) sz) := by
  refine va_MetW (cc := cL_known) (maxL := 4) (ret := (some .int)) (by decide) rfl ?_
  intro p e s m args below meth c s₁ B hml hv
  obtain ⟨rfl, ⟨hsz, hP, hK, hD0⟩, hE⟩ := hv
  have htab := vx_table (x := yL_known) B (atoms_spec (ws := wsL_known) B.pre _ List.mem_cons_self)
  have bx := bx_of B hml
  subst hsz
  have hD := hD0.self (sz := s.heap.size)
  generalize hAe : va_A (XW G q qo (C, o)) s.heap.size = A at hD hE ⊢
  have hA : ∀ q : Nat, s.heap.size ≤ q → A q := fun q h => by rw [← hAe]; exact Or.inr h
  have hS : va_S A s.heap s.heap [] := va_S.rf
  have hP : va_P G.1 vwCl ([] ++ (CW G q C ++ OW G qo o)) s.heap := hP
  have hD : va_D A ([] ++ (CW G q C ++ OW G qo o)) := hD
  obtain ⟨hx, hb, hr, hts, hown, hml, hlocks⟩ := id bx
  have hl := lv_entry ([.ref (q 0), .int x1, .ref qo]) (n := 4) (Nat.le_of_ble_eq_true rfl)
  rw [lg_entry_eq]
  generalize (lg_sl ([.ref (q 0), .int x1, .ref qo]) ++ List.replicate (4 - (lg_sl ([.ref (q 0), .int x1, .ref qo])).length) Slot.unset).toArray = ls at hl ⊢
  have hl : lv_has ls 4 [(0, .ref (q 0)), (1, .int x1), (2, .ref qo)] := hl
  unfold pL_known at h
  rcases hc : pX6_known C x1 with _ | (⟨ek, eC⟩ | r)
  · rw [hc] at h; cases h
  · rw [hc] at h
    by_cases h0 : ek = 1
    · subst h0
      have h : some ((1 : Int32), (eC, o)) = some out := h
      refine lv_aload_n hx hb dL_known_0 rfl (lv_at hl 2 rfl) ?_
      refine lv_iconst (v := 0) hx hb dL_known_1 (by decide) ?_
      refine lv_aload_n hx hb dL_known_2 rfl (lv_at hl 0 rfl) ?_
      refine lv_iload_n hx hb dL_known_3 rfl (lv_at hl 1 rfl) ?_
      refine x_call (Wd := CW G q) (e' := (1, eC)) [] (OW G qo o) (vx_runV (As := [.int x1]) (rest := [.int 0, .ref qo]) ⟨hx, hb, hml, hown, hts⟩ (xX6_known l hl0 G q C _ x1 (1, eC) hc) (cwV 1 hts gL_known_X6_known rfl rfl rfl (by decide +kernel) ⟨Nat.le_of_ble_eq_true rfl, Nat.le_of_ble_eq_true rfl⟩) (xV (fr_mid [] (OW G qo o) hP) (fr_midD [] (OW G qo o) hD) hS hK hA hE 7 0 rfl rfl) rfl rfl hl.1 rfl (lv_room (Nat.le_of_ble_eq_true rfl)) dL_known_4 ⟨Nat.le_of_ble_eq_true rfl, Nat.le_of_ble_eq_true rfl⟩) hP hD hS hA (fun _ => rfl) (fun ce q9 H locs hP hD hS hce hcv hcl => ?_)
      refine vx_catch hown [] (⟨0, 9, 12, 13⟩ : ExceptionTableEntry) [] (htab.trans rfl) (fun _ hz => absurd hz List.not_mem_nil) (by decide) (by decide) (w_mem hts 1 rfl) (hK.2.at 60 rfl) hce hcv hcl ?_
      refine lv_astore_n (lv' := [(3, .ref q9), (0, .ref (q 0)), (1, .int x1), (2, .ref qo)]) hx hb dL_known_12 rfl hl (by decide) rfl (fun ls hl => ?_)
      refine lv_iconst (v := 1) hx hb dL_known_13 (by decide) ?_
      exact W.iret (v := 1) hx hb hr (fun t ht _ => ⟨⟨1, (eC, o), rfl, Option.some.inj h, by show va_P G.1 vwCl (XW G q qo (eC, o)) t.heap; rw [ht]; exact hP⟩, hS.F ht⟩) hS.2.2 dL_known_14 hlocks
    · exact absurd h (by simp [lresW, cdL_known, h0])
  · rw [hc] at h
    refine lv_aload_n hx hb dL_known_0 rfl (lv_at hl 2 rfl) ?_
    refine lv_iconst (v := 0) hx hb dL_known_1 (by decide) ?_
    refine lv_aload_n hx hb dL_known_2 rfl (lv_at hl 0 rfl) ?_
    refine lv_iload_n hx hb dL_known_3 rfl (lv_at hl 1 rfl) ?_
    refine wf_i (Wd := CW G q) [] (OW G qo o) (va_runV (As := [.int x1]) (rest := [.int 0, .ref qo]) ⟨hx, hb, hml, hown, hts⟩ (kX6_known l G q C _ x1 r hc) (cwV 1 hts gL_known_X6_known rfl rfl rfl (by decide +kernel) ⟨Nat.le_of_ble_eq_true rfl, Nat.le_of_ble_eq_true rfl⟩) (wrV (fr_mid [] (OW G qo o) hP) (fr_midD [] (OW G qo o) hD) hK 7 0 rfl rfl) rfl rfl hl.1 rfl (lv_room (Nat.le_of_ble_eq_true rfl)) dL_known_4 ⟨Nat.zero_le _, Nat.zero_le _⟩) hP hD hS hA (fun _ => rfl) (fun H locs hP hD hS => ?_)
    refine lv_i2l (v := Int32.toInt64 r.1) hx hb dL_known_7 rfl ?_
    refine va_last (D := G.1) hx hb hK.1 hP hD hS 20 3 rfl rfl (by unfold vp_in; decide) dL_known_8 (fun H locs hP hD hS => ?_)
    have hP : va_P G.1 vwCl (XW G q qo (r.2, vp_updL o 0 (Int32.toInt64 r.1))) H := hP
    refine lv_goto (tgt := 15) hx hb dL_known_9 (by decide) ?_
    refine lv_iconst (v := 0) hx hb dL_known_15 (by decide) ?_
    refine W.widen (k := 1) (n := 6) (Nat.le_of_ble_eq_true rfl) (Nat.le_of_ble_eq_true rfl) ?_
    have h : some ((0 : Int32), (r.2, vp_updL o 0 (Int32.toInt64 r.1))) = some out := h
    exact W.iret (v := 0) hx hb hr (fun t ht _ => ⟨⟨0, (r.2, vp_updL o 0 (Int32.toInt64 r.1)), rfl, Option.some.inj h, by show va_P G.1 vwCl (XW G q qo (r.2, vp_updL o 0 (Int32.toInt64 r.1))) t.heap; rw [ht]; exact hP⟩, hS.F ht⟩) hS.2.2 dL_known_16 hlocks

def rmL_reasonOf : Room := { frames := 8, cells := 1, slots := 6, locals := 160 }
set_option maxHeartbeats 4000000 in
set_option maxRecDepth 100000 in
theorem kL_reasonOf (l : Launch) (hl0 : l.stackTraces = false) (G : GT) (q : Nat → Nat) (qo : Nat) (C : St) (o : Nat → Int64) (sz : Nat) (x1 : Int32) (out : Int32 × (St × (Nat → Int64))) (h : pL_reasonOf C o x1 = some out) : Met l yL_reasonOf wsL_reasonOf rmL_reasonOf (va_Pc [.ref (q 0), .int x1, .ref qo] (xP G (XW G q qo (C, o)) sz)) (va_Qi (fun r u => (r, u) = out) (fun u t => va_P G.1 vwCl (XW G q qo u) t.heap) (va_A (XW G q qo (C, o)) sz)) 1 6 (va_A (XW G q qo (C, o)) sz) := by
  refine va_MetW (cc := cL_reasonOf) (maxL := 4) (ret := (some .int)) (by decide) rfl ?_
  intro p e s m args below meth c s₁ B hml hv
  obtain ⟨rfl, ⟨hsz, hP, hK, hD0⟩, hE⟩ := hv
  have htab := vx_table (x := yL_reasonOf) B (atoms_spec (ws := wsL_reasonOf) B.pre _ List.mem_cons_self)
  have bx := bx_of B hml
  subst hsz
  have hD := hD0.self (sz := s.heap.size)
  generalize hAe : va_A (XW G q qo (C, o)) s.heap.size = A at hD hE ⊢
  have hA : ∀ q : Nat, s.heap.size ≤ q → A q := fun q h => by rw [← hAe]; exact Or.inr h
  have hS : va_S A s.heap s.heap [] := va_S.rf
  have hP : va_P G.1 vwCl ([] ++ (CW G q C ++ OW G qo o)) s.heap := hP
  have hD : va_D A ([] ++ (CW G q C ++ OW G qo o)) := hD
  obtain ⟨hx, hb, hr, hts, hown, hml, hlocks⟩ := id bx
  have hl := lv_entry ([.ref (q 0), .int x1, .ref qo]) (n := 4) (Nat.le_of_ble_eq_true rfl)
  rw [lg_entry_eq]
  generalize (lg_sl ([.ref (q 0), .int x1, .ref qo]) ++ List.replicate (4 - (lg_sl ([.ref (q 0), .int x1, .ref qo])).length) Slot.unset).toArray = ls at hl ⊢
  have hl : lv_has ls 4 [(0, .ref (q 0)), (1, .int x1), (2, .ref qo)] := hl
  unfold pL_reasonOf at h
  rcases hc : pX6_reasonOf C x1 with _ | (⟨ek, eC⟩ | r)
  · rw [hc] at h; cases h
  · rw [hc] at h
    by_cases h0 : ek = 1
    · subst h0
      have h : some ((1 : Int32), (eC, o)) = some out := h
      refine lv_aload_n hx hb dL_reasonOf_0 rfl (lv_at hl 2 rfl) ?_
      refine lv_iconst (v := 0) hx hb dL_reasonOf_1 (by decide) ?_
      refine lv_aload_n hx hb dL_reasonOf_2 rfl (lv_at hl 0 rfl) ?_
      refine lv_iload_n hx hb dL_reasonOf_3 rfl (lv_at hl 1 rfl) ?_
      refine x_call (Wd := CW G q) (e' := (1, eC)) [] (OW G qo o) (vx_runV (As := [.int x1]) (rest := [.int 0, .ref qo]) ⟨hx, hb, hml, hown, hts⟩ (xX6_reasonOf l hl0 G q C _ x1 (1, eC) hc) (cwV 1 hts gL_reasonOf_X6_reasonOf rfl rfl rfl (by decide +kernel) ⟨Nat.le_of_ble_eq_true rfl, Nat.le_of_ble_eq_true rfl⟩) (xV (fr_mid [] (OW G qo o) hP) (fr_midD [] (OW G qo o) hD) hS hK hA hE 7 0 rfl rfl) rfl rfl hl.1 rfl (lv_room (Nat.le_of_ble_eq_true rfl)) dL_reasonOf_4 ⟨Nat.le_of_ble_eq_true rfl, Nat.le_of_ble_eq_true rfl⟩) hP hD hS hA (fun _ => rfl) (fun ce q9 H locs hP hD hS hce hcv hcl => ?_)
      refine vx_catch hown [] (⟨0, 9, 12, 13⟩ : ExceptionTableEntry) [(⟨0, 9, 15, 42⟩ : ExceptionTableEntry)] (htab.trans rfl) (fun _ hz => absurd hz List.not_mem_nil) (by decide) (by decide) (w_mem hts 1 rfl) (hK.2.at 60 rfl) hce hcv hcl ?_
      refine lv_astore_n (lv' := [(3, .ref q9), (0, .ref (q 0)), (1, .int x1), (2, .ref qo)]) hx hb dL_reasonOf_12 rfl hl (by decide) rfl (fun ls hl => ?_)
      refine lv_iconst (v := 1) hx hb dL_reasonOf_13 (by decide) ?_
      exact W.iret (v := 1) hx hb hr (fun t ht _ => ⟨⟨1, (eC, o), rfl, Option.some.inj h, by show va_P G.1 vwCl (XW G q qo (eC, o)) t.heap; rw [ht]; exact hP⟩, hS.F ht⟩) hS.2.2 dL_reasonOf_14 hlocks
    by_cases h1 : ek = 5
    · subst h1
      have h : some ((2 : Int32), (eC, o)) = some out := h
      refine lv_aload_n hx hb dL_reasonOf_0 rfl (lv_at hl 2 rfl) ?_
      refine lv_iconst (v := 0) hx hb dL_reasonOf_1 (by decide) ?_
      refine lv_aload_n hx hb dL_reasonOf_2 rfl (lv_at hl 0 rfl) ?_
      refine lv_iload_n hx hb dL_reasonOf_3 rfl (lv_at hl 1 rfl) ?_
      refine x_call (Wd := CW G q) (e' := (5, eC)) [] (OW G qo o) (vx_runV (As := [.int x1]) (rest := [.int 0, .ref qo]) ⟨hx, hb, hml, hown, hts⟩ (xX6_reasonOf l hl0 G q C _ x1 (5, eC) hc) (cwV 1 hts gL_reasonOf_X6_reasonOf rfl rfl rfl (by decide +kernel) ⟨Nat.le_of_ble_eq_true rfl, Nat.le_of_ble_eq_true rfl⟩) (xV (fr_mid [] (OW G qo o) hP) (fr_midD [] (OW G qo o) hD) hS hK hA hE 7 0 rfl rfl) rfl rfl hl.1 rfl (lv_room (Nat.le_of_ble_eq_true rfl)) dL_reasonOf_4 ⟨Nat.le_of_ble_eq_true rfl, Nat.le_of_ble_eq_true rfl⟩) hP hD hS hA (fun _ => rfl) (fun ce q9 H locs hP hD hS hce hcv hcl => ?_)
      refine vx_catch hown [(⟨0, 9, 12, 13⟩ : ExceptionTableEntry)] (⟨0, 9, 15, 42⟩ : ExceptionTableEntry) [] (htab.trans rfl) (List.forall_mem_cons.mpr ⟨Or.inr ⟨by decide, "java/lang/IndexOutOfBoundsException", (w_mem hts 1 rfl), hE.2.2.2 5 1 ⟨by decide, by decide⟩ ⟨by decide, by decide⟩ (by decide)⟩, fun _ hz => absurd hz List.not_mem_nil⟩) (by decide) (by decide) (w_mem hK.2.all 69 rfl) (hK.2.at 64 rfl) hce hcv hcl ?_
      refine lv_astore_n (lv' := [(3, .ref q9), (0, .ref (q 0)), (1, .int x1), (2, .ref qo)]) hx hb dL_reasonOf_15 rfl hl (by decide) rfl (fun ls hl => ?_)
      refine lv_iconst (v := 2) hx hb dL_reasonOf_16 (by decide) ?_
      exact W.iret (v := 2) hx hb hr (fun t ht _ => ⟨⟨2, (eC, o), rfl, Option.some.inj h, by show va_P G.1 vwCl (XW G q qo (eC, o)) t.heap; rw [ht]; exact hP⟩, hS.F ht⟩) hS.2.2 dL_reasonOf_17 hlocks
    · exact absurd h (by simp [lresW, cdL_reasonOf, h0, h1])
  · rw [hc] at h
    refine lv_aload_n hx hb dL_reasonOf_0 rfl (lv_at hl 2 rfl) ?_
    refine lv_iconst (v := 0) hx hb dL_reasonOf_1 (by decide) ?_
    refine lv_aload_n hx hb dL_reasonOf_2 rfl (lv_at hl 0 rfl) ?_
    refine lv_iload_n hx hb dL_reasonOf_3 rfl (lv_at hl 1 rfl) ?_
    refine wf_i (Wd := CW G q) [] (OW G qo o) (va_runV (As := [.int x1]) (rest := [.int 0, .ref qo]) ⟨hx, hb, hml, hown, hts⟩ (kX6_reasonOf l G q C _ x1 r hc) (cwV 1 hts gL_reasonOf_X6_reasonOf rfl rfl rfl (by decide +kernel) ⟨Nat.le_of_ble_eq_true rfl, Nat.le_of_ble_eq_true rfl⟩) (wrV (fr_mid [] (OW G qo o) hP) (fr_midD [] (OW G qo o) hD) hK 7 0 rfl rfl) rfl rfl hl.1 rfl (lv_room (Nat.le_of_ble_eq_true rfl)) dL_reasonOf_4 ⟨Nat.zero_le _, Nat.zero_le _⟩) hP hD hS hA (fun _ => rfl) (fun H locs hP hD hS => ?_)
    refine lv_i2l (v := Int32.toInt64 r.1) hx hb dL_reasonOf_7 rfl ?_
    refine va_last (D := G.1) hx hb hK.1 hP hD hS 20 3 rfl rfl (by unfold vp_in; decide) dL_reasonOf_8 (fun H locs hP hD hS => ?_)
    have hP : va_P G.1 vwCl (XW G q qo (r.2, vp_updL o 0 (Int32.toInt64 r.1))) H := hP
    refine lv_goto (tgt := 18) hx hb dL_reasonOf_9 (by decide) ?_
    refine lv_iconst (v := 0) hx hb dL_reasonOf_18 (by decide) ?_
    refine W.widen (k := 1) (n := 6) (Nat.le_of_ble_eq_true rfl) (Nat.le_of_ble_eq_true rfl) ?_
    have h : some ((0 : Int32), (r.2, vp_updL o 0 (Int32.toInt64 r.1))) = some out := h
    exact W.iret (v := 0) hx hb hr (fun t ht _ => ⟨⟨0, (r.2, vp_updL o 0 (Int32.toInt64 r.1)), rfl, Option.some.inj h, by show va_P G.1 vwCl (XW G q qo (r.2, vp_updL o 0 (Int32.toInt64 r.1))) t.heap; rw [ht]; exact hP⟩, hS.F ht⟩) hS.2.2 dL_reasonOf_19 hlocks
