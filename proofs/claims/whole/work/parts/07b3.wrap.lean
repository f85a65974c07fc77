def rmL_fewest : Room := { frames := 8, cells := 1, slots := 6, locals := 147 }
set_option maxHeartbeats 4000000 in
set_option maxRecDepth 100000 in
theorem kL_fewest (l : Launch) (hl0 : l.stackTraces = false) (G : GT) (q : Nat → Nat) (qo : Nat) (C : St) (o : Nat → Int64) (sz : Nat) (x1 : Int32) (x2 : Int32) (out : Int32 × (St × (Nat → Int64))) (h : pL_fewest C o x1 x2 = some out) : Met l yL_fewest wsL_fewest rmL_fewest (va_Pc [.ref (q 0), .int x1, .int x2, .ref qo] (xP G (XW G q qo (C, o)) sz)) (va_Qi (fun r u => (r, u) = out) (fun u t => va_P G.1 vwCl (XW G q qo u) t.heap) (va_A (XW G q qo (C, o)) sz)) 1 6 (va_A (XW G q qo (C, o)) sz) := by
  refine va_MetW (cc := cL_fewest) (maxL := 5) (ret := (some .int)) (by decide) rfl ?_
  intro p e s m args below meth c s₁ B hml hv
  obtain ⟨rfl, ⟨hsz, hP, hK, hD0⟩, hE⟩ := hv
  have htab := vx_table (x := yL_fewest) B (atoms_spec (ws := wsL_fewest) B.pre _ List.mem_cons_self)
  have bx := bx_of B hml
  subst hsz
  have hD := hD0.self (sz := s.heap.size)
  generalize hAe : va_A (XW G q qo (C, o)) s.heap.size = A at hD hE ⊢
  have hA : ∀ q : Nat, s.heap.size ≤ q → A q := fun q h => by rw [← hAe]; exact Or.inr h
  have hS : va_S A s.heap s.heap [] := va_S.rf
  have hP : va_P G.1 vwCl ([] ++ (CW G q C ++ OW G qo o)) s.heap := hP
  have hD : va_D A ([] ++ (CW G q C ++ OW G qo o)) := hD
  obtain ⟨hx, hb, hr, hts, hown, hml, hlocks⟩ := id bx
  have hl := lv_entry ([.ref (q 0), .int x1, .int x2, .ref qo]) (n := 5) (Nat.le_of_ble_eq_true rfl)
  rw [lg_entry_eq]
  generalize (lg_sl ([.ref (q 0), .int x1, .int x2, .ref qo]) ++ List.replicate (5 - (lg_sl ([.ref (q 0), .int x1, .int x2, .ref qo])).length) Slot.unset).toArray = ls at hl ⊢
  have hl : lv_has ls 5 [(0, .ref (q 0)), (1, .int x1), (2, .int x2), (3, .ref qo)] := hl
  unfold pL_fewest at h
  rcases hc : pX6_fewest C x1 x2 with _ | (ek | r)
  · rw [hc] at h; cases h
  · rw [hc] at h
    by_cases h0 : ek = 1
    · subst h0
      have h : some ((1 : Int32), (C, o)) = some out := h
      refine lv_aload_n hx hb dL_fewest_0 rfl (lv_at hl 3 rfl) ?_
      refine lv_iconst (v := 0) hx hb dL_fewest_1 (by decide) ?_
      refine lv_aload_n hx hb dL_fewest_2 rfl (lv_at hl 0 rfl) ?_
      refine lv_iload_n hx hb dL_fewest_3 rfl (lv_at hl 1 rfl) ?_
      refine lv_iload_n hx hb dL_fewest_4 rfl (lv_at hl 2 rfl) ?_
      refine x_call (Wd := CW G q) (e' := (1, C)) [] (OW G qo o) (vx_runV (As := [.int x1, .int x2]) (rest := [.int 0, .ref qo]) ⟨hx, hb, hml, hown, hts⟩ (xX6_fewest l hl0 G q C _ x1 x2 1 hc) (cwV 2 hts gL_fewest_X6_fewest rfl rfl rfl (by decide +kernel) ⟨Nat.le_of_ble_eq_true rfl, Nat.le_of_ble_eq_true rfl⟩) (xV (fr_mid [] (OW G qo o) hP) (fr_midD [] (OW G qo o) hD) hS hK hA hE 7 0 rfl rfl) rfl rfl hl.1 rfl (lv_room (Nat.le_of_ble_eq_true rfl)) dL_fewest_5 ⟨Nat.le_of_ble_eq_true rfl, Nat.le_of_ble_eq_true rfl⟩) hP hD hS hA (fun _ => rfl) (fun ce q9 H locs hP hD hS hce hcv hcl => ?_)
      refine vx_catch hown [] (⟨0, 10, 13, 13⟩ : ExceptionTableEntry) [(⟨0, 10, 17, 42⟩ : ExceptionTableEntry)] (htab.trans rfl) (fun _ hz => absurd hz List.not_mem_nil) (by decide) (by decide) (w_mem hts 1 rfl) (hK.2.at 60 rfl) hce hcv hcl ?_
      refine lv_astore (lv' := [(4, .ref q9), (0, .ref (q 0)), (1, .int x1), (2, .int x2), (3, .ref qo)]) hx hb dL_fewest_13 hl (by decide) rfl (fun ls hl => ?_)
      refine lv_iconst (v := 1) hx hb dL_fewest_15 (by decide) ?_
      exact W.iret (v := 1) hx hb hr (fun t ht _ => ⟨⟨1, (C, o), rfl, Option.some.inj h, by show va_P G.1 vwCl (XW G q qo (C, o)) t.heap; rw [ht]; exact hP⟩, hS.F ht⟩) hS.2.2 dL_fewest_16 hlocks
    by_cases h1 : ek = 5
    · subst h1
      have h : some ((2 : Int32), (C, o)) = some out := h
      refine lv_aload_n hx hb dL_fewest_0 rfl (lv_at hl 3 rfl) ?_
      refine lv_iconst (v := 0) hx hb dL_fewest_1 (by decide) ?_
      refine lv_aload_n hx hb dL_fewest_2 rfl (lv_at hl 0 rfl) ?_
      refine lv_iload_n hx hb dL_fewest_3 rfl (lv_at hl 1 rfl) ?_
      refine lv_iload_n hx hb dL_fewest_4 rfl (lv_at hl 2 rfl) ?_
      refine x_call (Wd := CW G q) (e' := (5, C)) [] (OW G qo o) (vx_runV (As := [.int x1, .int x2]) (rest := [.int 0, .ref qo]) ⟨hx, hb, hml, hown, hts⟩ (xX6_fewest l hl0 G q C _ x1 x2 5 hc) (cwV 2 hts gL_fewest_X6_fewest rfl rfl rfl (by decide +kernel) ⟨Nat.le_of_ble_eq_true rfl, Nat.le_of_ble_eq_true rfl⟩) (xV (fr_mid [] (OW G qo o) hP) (fr_midD [] (OW G qo o) hD) hS hK hA hE 7 0 rfl rfl) rfl rfl hl.1 rfl (lv_room (Nat.le_of_ble_eq_true rfl)) dL_fewest_5 ⟨Nat.le_of_ble_eq_true rfl, Nat.le_of_ble_eq_true rfl⟩) hP hD hS hA (fun _ => rfl) (fun ce q9 H locs hP hD hS hce hcv hcl => ?_)
      refine vx_catch hown [(⟨0, 10, 13, 13⟩ : ExceptionTableEntry)] (⟨0, 10, 17, 42⟩ : ExceptionTableEntry) [] (htab.trans rfl) (List.forall_mem_cons.mpr ⟨Or.inr ⟨by decide, "java/lang/IndexOutOfBoundsException", (w_mem hts 1 rfl), hE.2.2.2 5 1 ⟨by decide, by decide⟩ ⟨by decide, by decide⟩ (by decide)⟩, fun _ hz => absurd hz List.not_mem_nil⟩) (by decide) (by decide) (w_mem hK.2.all 69 rfl) (hK.2.at 64 rfl) hce hcv hcl ?_
      refine lv_astore (lv' := [(4, .ref q9), (0, .ref (q 0)), (1, .int x1), (2, .int x2), (3, .ref qo)]) hx hb dL_fewest_17 hl (by decide) rfl (fun ls hl => ?_)
      refine lv_iconst (v := 2) hx hb dL_fewest_19 (by decide) ?_
      exact W.iret (v := 2) hx hb hr (fun t ht _ => ⟨⟨2, (C, o), rfl, Option.some.inj h, by show va_P G.1 vwCl (XW G q qo (C, o)) t.heap; rw [ht]; exact hP⟩, hS.F ht⟩) hS.2.2 dL_fewest_20 hlocks
    · exact absurd h (by simp [lresR, cdL_fewest, h0, h1])
  · rw [hc] at h
    refine lv_aload_n hx hb dL_fewest_0 rfl (lv_at hl 3 rfl) ?_
    refine lv_iconst (v := 0) hx hb dL_fewest_1 (by decide) ?_
    refine lv_aload_n hx hb dL_fewest_2 rfl (lv_at hl 0 rfl) ?_
    refine lv_iload_n hx hb dL_fewest_3 rfl (lv_at hl 1 rfl) ?_
    refine lv_iload_n hx hb dL_fewest_4 rfl (lv_at hl 2 rfl) ?_
    refine ro_i (va_runV (As := [.int x1, .int x2]) (rest := [.int 0, .ref qo]) ⟨hx, hb, hml, hown, hts⟩ (kX6_fewest l G q C x1 x2 r hc) (cwV 2 hts gL_fewest_X6_fewest rfl rfl rfl (by decide +kernel) ⟨Nat.le_of_ble_eq_true rfl, Nat.le_of_ble_eq_true rfl⟩) (roV (fr_mid [] (OW G qo o) hP) hK 7 0 rfl rfl) rfl rfl hl.1 rfl (lv_room (Nat.le_of_ble_eq_true rfl)) dL_fewest_5 ⟨Nat.zero_le _, Nat.zero_le _⟩) ?_
    refine lv_i2l (v := Int32.toInt64 r) hx hb dL_fewest_8 rfl ?_
    refine va_last (D := G.1) hx hb hK.1 hP hD hS 20 3 rfl rfl (by unfold vp_in; decide) dL_fewest_9 (fun H locs hP hD hS => ?_)
    have hP : va_P G.1 vwCl (XW G q qo (C, vp_updL o 0 (Int32.toInt64 r))) H := hP
    refine lv_goto (tgt := 21) hx hb dL_fewest_10 (by decide) ?_
    refine lv_iconst (v := 0) hx hb dL_fewest_21 (by decide) ?_
    refine W.widen (k := 1) (n := 6) (Nat.le_of_ble_eq_true rfl) (Nat.le_of_ble_eq_true rfl) ?_
    have h : some ((0 : Int32), (C, vp_updL o 0 (Int32.toInt64 r))) = some out := h
    exact W.iret (v := 0) hx hb hr (fun t ht _ => ⟨⟨0, (C, vp_updL o 0 (Int32.toInt64 r)), rfl, Option.some.inj h, by show va_P G.1 vwCl (XW G q qo (C, vp_updL o 0 (Int32.toInt64 r))) t.heap; rw [ht]; exact hP⟩, hS.F ht⟩) hS.2.2 dL_fewest_22 hlocks

def rmL_toRetract : Room := { frames := 8, cells := 1, slots := 6, locals := 147 }
set_option maxHeartbeats 4000000 in
set_option maxRecDepth 100000 in
theorem kL_toRetract (l : Launch) (hl0 : l.stackTraces = false) (G : GT) (q : Nat → Nat) (qo : Nat) (C : St) (o : Nat → Int64) (sz : Nat) (x1 : Int32) (x2 : Int32) (out : Int32 × (St × (Nat → Int64))) (h : pL_toRetract C o x1 x2 = some out) : Met l yL_toRetract wsL_toRetract rmL_toRetract (va_Pc [.ref (q 0), .int x1, .int x2, .ref qo] (xP G (XW G q qo (C, o)) sz)) (va_Qi (fun r u => (r, u) = out) (fun u t => va_P G.1 vwCl (XW G q qo u) t.heap) (va_A (XW G q qo (C, o)) sz)) 1 6 (va_A (XW G q qo (C, o)) sz) := by
  refine va_MetW (cc := cL_toRetract) (maxL := 5) (ret := (some .int)) (by decide) rfl ?_
  intro p e s m args below meth c s₁ B hml hv
  obtain ⟨rfl, ⟨hsz, hP, hK, hD0⟩, hE⟩ := hv
  have htab := vx_table (x := yL_toRetract) B (atoms_spec (ws := wsL_toRetract) B.pre _ List.mem_cons_self)
  have bx := bx_of B hml
  subst hsz
  have hD := hD0.self (sz := s.heap.size)
  generalize hAe : va_A (XW G q qo (C, o)) s.heap.size = A at hD hE ⊢
  have hA : ∀ q : Nat, s.heap.size ≤ q → A q := fun q h => by rw [← hAe]; exact Or.inr h
  have hS : va_S A s.heap s.heap [] := va_S.rf
  have hP : va_P G.1 vwCl ([] ++ (CW G q C ++ OW G qo o)) s.heap := hP
  have hD : va_D A ([] ++ (CW G q C ++ OW G qo o)) := hD
  obtain ⟨hx, hb, hr, hts, hown, hml, hlocks⟩ := id bx
  have hl := lv_entry ([.ref (q 0), .int x1, .int x2, .ref qo]) (n := 5) (Nat.le_of_ble_eq_true rfl)
  rw [lg_entry_eq]
  generalize (lg_sl ([.ref (q 0), .int x1, .int x2, .ref qo]) ++ List.replicate (5 - (lg_sl ([.ref (q 0), .int x1, .int x2, .ref qo])).length) Slot.unset).toArray = ls at hl ⊢
  have hl : lv_has ls 5 [(0, .ref (q 0)), (1, .int x1), (2, .int x2), (3, .ref qo)] := hl
  unfold pL_toRetract at h
  rcases hc : pX6_toRetract C x1 x2 with _ | (ek | r)
  · rw [hc] at h; cases h
  · rw [hc] at h
    by_cases h0 : ek = 1
    · subst h0
      have h : some ((1 : Int32), (C, o)) = some out := h
      refine lv_aload_n hx hb dL_toRetract_0 rfl (lv_at hl 3 rfl) ?_
      refine lv_iconst (v := 0) hx hb dL_toRetract_1 (by decide) ?_
      refine lv_aload_n hx hb dL_toRetract_2 rfl (lv_at hl 0 rfl) ?_
      refine lv_iload_n hx hb dL_toRetract_3 rfl (lv_at hl 1 rfl) ?_
      refine lv_iload_n hx hb dL_toRetract_4 rfl (lv_at hl 2 rfl) ?_
      refine x_call (Wd := CW G q) (e' := (1, C)) [] (OW G qo o) (vx_runV (As := [.int x1, .int x2]) (rest := [.int 0, .ref qo]) ⟨hx, hb, hml, hown, hts⟩ (xX6_toRetract l hl0 G q C _ x1 x2 1 hc) (cwV 2 hts gL_toRetract_X6_toRetract rfl rfl rfl (by decide +kernel) ⟨Nat.le_of_ble_eq_true rfl, Nat.le_of_ble_eq_true rfl⟩) (xV (fr_mid [] (OW G qo o) hP) (fr_midD [] (OW G qo o) hD) hS hK hA hE 7 0 rfl rfl) rfl rfl hl.1 rfl (lv_room (Nat.le_of_ble_eq_true rfl)) dL_toRetract_5 ⟨Nat.le_of_ble_eq_true rfl, Nat.le_of_ble_eq_true rfl⟩) hP hD hS hA (fun _ => rfl) (fun ce q9 H locs hP hD hS hce hcv hcl => ?_)
      refine vx_catch hown [] (⟨0, 10, 13, 13⟩ : ExceptionTableEntry) [(⟨0, 10, 17, 42⟩ : ExceptionTableEntry)] (htab.trans rfl) (fun _ hz => absurd hz List.not_mem_nil) (by decide) (by decide) (w_mem hts 1 rfl) (hK.2.at 60 rfl) hce hcv hcl ?_
      refine lv_astore (lv' := [(4, .ref q9), (0, .ref (q 0)), (1, .int x1), (2, .int x2), (3, .ref qo)]) hx hb dL_toRetract_13 hl (by decide) rfl (fun ls hl => ?_)
      refine lv_iconst (v := 1) hx hb dL_toRetract_15 (by decide) ?_
      exact W.iret (v := 1) hx hb hr (fun t ht _ => ⟨⟨1, (C, o), rfl, Option.some.inj h, by show va_P G.1 vwCl (XW G q qo (C, o)) t.heap; rw [ht]; exact hP⟩, hS.F ht⟩) hS.2.2 dL_toRetract_16 hlocks
    by_cases h1 : ek = 5
    · subst h1
      have h : some ((2 : Int32), (C, o)) = some out := h
      refine lv_aload_n hx hb dL_toRetract_0 rfl (lv_at hl 3 rfl) ?_
      refine lv_iconst (v := 0) hx hb dL_toRetract_1 (by decide) ?_
      refine lv_aload_n hx hb dL_toRetract_2 rfl (lv_at hl 0 rfl) ?_
      refine lv_iload_n hx hb dL_toRetract_3 rfl (lv_at hl 1 rfl) ?_
      refine lv_iload_n hx hb dL_toRetract_4 rfl (lv_at hl 2 rfl) ?_
      refine x_call (Wd := CW G q) (e' := (5, C)) [] (OW G qo o) (vx_runV (As := [.int x1, .int x2]) (rest := [.int 0, .ref qo]) ⟨hx, hb, hml, hown, hts⟩ (xX6_toRetract l hl0 G q C _ x1 x2 5 hc) (cwV 2 hts gL_toRetract_X6_toRetract rfl rfl rfl (by decide +kernel) ⟨Nat.le_of_ble_eq_true rfl, Nat.le_of_ble_eq_true rfl⟩) (xV (fr_mid [] (OW G qo o) hP) (fr_midD [] (OW G qo o) hD) hS hK hA hE 7 0 rfl rfl) rfl rfl hl.1 rfl (lv_room (Nat.le_of_ble_eq_true rfl)) dL_toRetract_5 ⟨Nat.le_of_ble_eq_true rfl, Nat.le_of_ble_eq_true rfl⟩) hP hD hS hA (fun _ => rfl) (fun ce q9 H locs hP hD hS hce hcv hcl => ?_)
      refine vx_catch hown [(⟨0, 10, 13, 13⟩ : ExceptionTableEntry)] (⟨0, 10, 17, 42⟩ : ExceptionTableEntry) [] (htab.trans rfl) (List.forall_mem_cons.mpr ⟨Or.inr ⟨by decide, "java/lang/IndexOutOfBoundsException", (w_mem hts 1 rfl), hE.2.2.2 5 1 ⟨by decide, by decide⟩ ⟨by decide, by decide⟩ (by decide)⟩, fun _ hz => absurd hz List.not_mem_nil⟩) (by decide) (by decide) (w_mem hK.2.all 69 rfl) (hK.2.at 64 rfl) hce hcv hcl ?_
      refine lv_astore (lv' := [(4, .ref q9), (0, .ref (q 0)), (1, .int x1), (2, .int x2), (3, .ref qo)]) hx hb dL_toRetract_17 hl (by decide) rfl (fun ls hl => ?_)
      refine lv_iconst (v := 2) hx hb dL_toRetract_19 (by decide) ?_
      exact W.iret (v := 2) hx hb hr (fun t ht _ => ⟨⟨2, (C, o), rfl, Option.some.inj h, by show va_P G.1 vwCl (XW G q qo (C, o)) t.heap; rw [ht]; exact hP⟩, hS.F ht⟩) hS.2.2 dL_toRetract_20 hlocks
    · exact absurd h (by simp [lresR, cdL_toRetract, h0, h1])
  · rw [hc] at h
    refine lv_aload_n hx hb dL_toRetract_0 rfl (lv_at hl 3 rfl) ?_
    refine lv_iconst (v := 0) hx hb dL_toRetract_1 (by decide) ?_
    refine lv_aload_n hx hb dL_toRetract_2 rfl (lv_at hl 0 rfl) ?_
    refine lv_iload_n hx hb dL_toRetract_3 rfl (lv_at hl 1 rfl) ?_
    refine lv_iload_n hx hb dL_toRetract_4 rfl (lv_at hl 2 rfl) ?_
    refine ro_i (va_runV (As := [.int x1, .int x2]) (rest := [.int 0, .ref qo]) ⟨hx, hb, hml, hown, hts⟩ (kX6_toRetract l G q C x1 x2 r hc) (cwV 2 hts gL_toRetract_X6_toRetract rfl rfl rfl (by decide +kernel) ⟨Nat.le_of_ble_eq_true rfl, Nat.le_of_ble_eq_true rfl⟩) (roV (fr_mid [] (OW G qo o) hP) hK 7 0 rfl rfl) rfl rfl hl.1 rfl (lv_room (Nat.le_of_ble_eq_true rfl)) dL_toRetract_5 ⟨Nat.zero_le _, Nat.zero_le _⟩) ?_
    refine lv_i2l (v := Int32.toInt64 r) hx hb dL_toRetract_8 rfl ?_
    refine va_last (D := G.1) hx hb hK.1 hP hD hS 20 3 rfl rfl (by unfold vp_in; decide) dL_toRetract_9 (fun H locs hP hD hS => ?_)
    have hP : va_P G.1 vwCl (XW G q qo (C, vp_updL o 0 (Int32.toInt64 r))) H := hP
    refine lv_goto (tgt := 21) hx hb dL_toRetract_10 (by decide) ?_
    refine lv_iconst (v := 0) hx hb dL_toRetract_21 (by decide) ?_
    refine W.widen (k := 1) (n := 6) (Nat.le_of_ble_eq_true rfl) (Nat.le_of_ble_eq_true rfl) ?_
    have h : some ((0 : Int32), (C, vp_updL o 0 (Int32.toInt64 r))) = some out := h
    exact W.iret (v := 0) hx hb hr (fun t ht _ => ⟨⟨0, (C, vp_updL o 0 (Int32.toInt64 r)), rfl, Option.some.inj h, by show va_P G.1 vwCl (XW G q qo (C, vp_updL o 0 (Int32.toInt64 r))) t.heap; rw [ht]; exact hP⟩, hS.F ht⟩) hS.2.2 dL_toRetract_22 hlocks

def rmL_force : Room := { frames := 8, cells := 1, slots := 6, locals := 148 }
set_option maxHeartbeats 4000000 in
set_option maxRecDepth 100000 in
theorem kL_force (l : Launch) (hl0 : l.stackTraces = false) (G : GT) (q : Nat → Nat) (qo : Nat) (C : St) (o : Nat → Int64) (sz : Nat) (x1 : Int32) (x2 : Int32) (out : Int32 × (St × (Nat → Int64))) (h : pL_force C o x1 x2 = some out) : Met l yL_force wsL_force rmL_force (va_Pc [.ref (q 0), .int x1, .int x2, .ref qo] (xP G (XW G q qo (C, o)) sz)) (va_Qi (fun r u => (r, u) = out) (fun u t => va_P G.1 vwCl (XW G q qo u) t.heap) (va_A (XW G q qo (C, o)) sz)) 1 6 (va_A (XW G q qo (C, o)) sz) := by
  refine va_MetW (cc := cL_force) (maxL := 5) (ret := (some .int)) (by decide) rfl ?_
  intro p e s m args below meth c s₁ B hml hv
  obtain ⟨rfl, ⟨hsz, hP, hK, hD0⟩, hE⟩ := hv
  have htab := vx_table (x := yL_force) B (atoms_spec (ws := wsL_force) B.pre _ List.mem_cons_self)
  have bx := bx_of B hml
  subst hsz
  have hD := hD0.self (sz := s.heap.size)
  generalize hAe : va_A (XW G q qo (C, o)) s.heap.size = A at hD hE ⊢
  have hA : ∀ q : Nat, s.heap.size ≤ q → A q := fun q h => by rw [← hAe]; exact Or.inr h
  have hS : va_S A s.heap s.heap [] := va_S.rf
  have hP : va_P G.1 vwCl ([] ++ (CW G q C ++ OW G qo o)) s.heap := hP
  have hD : va_D A ([] ++ (CW G q C ++ OW G qo o)) := hD
  obtain ⟨hx, hb, hr, hts, hown, hml, hlocks⟩ := id bx
  have hl := lv_entry ([.ref (q 0), .int x1, .int x2, .ref qo]) (n := 5) (Nat.le_of_ble_eq_true rfl)
  rw [lg_entry_eq]
  generalize (lg_sl ([.ref (q 0), .int x1, .int x2, .ref qo]) ++ List.replicate (5 - (lg_sl ([.ref (q 0), .int x1, .int x2, .ref qo])).length) Slot.unset).toArray = ls at hl ⊢
  have hl : lv_has ls 5 [(0, .ref (q 0)), (1, .int x1), (2, .int x2), (3, .ref qo)] := hl
  unfold pL_force at h
  rcases hc : pX6_force C x1 x2 with _ | (⟨ek, eC⟩ | r)
  · rw [hc] at h; cases h
  · rw [hc] at h
    by_cases h0 : ek = 1
    · subst h0
      have h : some ((1 : Int32), (eC, o)) = some out := h
      refine lv_aload_n hx hb dL_force_0 rfl (lv_at hl 3 rfl) ?_
      refine lv_iconst (v := 0) hx hb dL_force_1 (by decide) ?_
      refine lv_aload_n hx hb dL_force_2 rfl (lv_at hl 0 rfl) ?_
      refine lv_iload_n hx hb dL_force_3 rfl (lv_at hl 1 rfl) ?_
      refine lv_iload_n hx hb dL_force_4 rfl (lv_at hl 2 rfl) ?_
      refine x_call (Wd := CW G q) (e' := (1, eC)) [] (OW G qo o) (vx_runV (As := [.int x1, .int x2]) (rest := [.int 0, .ref qo]) ⟨hx, hb, hml, hown, hts⟩ (xX6_force l hl0 G q C _ x1 x2 (1, eC) hc) (cwV 2 hts gL_force_X6_force rfl rfl rfl (by decide +kernel) ⟨Nat.le_of_ble_eq_true rfl, Nat.le_of_ble_eq_true rfl⟩) (xV (fr_mid [] (OW G qo o) hP) (fr_midD [] (OW G qo o) hD) hS hK hA hE 7 0 rfl rfl) rfl rfl hl.1 rfl (lv_room (Nat.le_of_ble_eq_true rfl)) dL_force_5 ⟨Nat.le_of_ble_eq_true rfl, Nat.le_of_ble_eq_true rfl⟩) hP hD hS hA (fun _ => rfl) (fun ce q9 H locs hP hD hS hce hcv hcl => ?_)
      refine vx_catch hown [] (⟨0, 10, 13, 13⟩ : ExceptionTableEntry) [(⟨0, 10, 17, 15⟩ : ExceptionTableEntry), (⟨0, 10, 21, 42⟩ : ExceptionTableEntry)] (htab.trans rfl) (fun _ hz => absurd hz List.not_mem_nil) (by decide) (by decide) (w_mem hts 1 rfl) (hK.2.at 60 rfl) hce hcv hcl ?_
      refine lv_astore (lv' := [(4, .ref q9), (0, .ref (q 0)), (1, .int x1), (2, .int x2), (3, .ref qo)]) hx hb dL_force_13 hl (by decide) rfl (fun ls hl => ?_)
      refine lv_iconst (v := 1) hx hb dL_force_15 (by decide) ?_
      exact W.iret (v := 1) hx hb hr (fun t ht _ => ⟨⟨1, (eC, o), rfl, Option.some.inj h, by show va_P G.1 vwCl (XW G q qo (eC, o)) t.heap; rw [ht]; exact hP⟩, hS.F ht⟩) hS.2.2 dL_force_16 hlocks
    by_cases h1 : ek = 2
    · subst h1
      have h : some ((2 : Int32), (eC, o)) = some out := h
      refine lv_aload_n hx hb dL_force_0 rfl (lv_at hl 3 rfl) ?_
      refine lv_iconst (v := 0) hx hb dL_force_1 (by decide) ?_
      refine lv_aload_n hx hb dL_force_2 rfl (lv_at hl 0 rfl) ?_
      refine lv_iload_n hx hb dL_force_3 rfl (lv_at hl 1 rfl) ?_
      refine lv_iload_n hx hb dL_force_4 rfl (lv_at hl 2 rfl) ?_
      refine x_call (Wd := CW G q) (e' := (2, eC)) [] (OW G qo o) (vx_runV (As := [.int x1, .int x2]) (rest := [.int 0, .ref qo]) ⟨hx, hb, hml, hown, hts⟩ (xX6_force l hl0 G q C _ x1 x2 (2, eC) hc) (cwV 2 hts gL_force_X6_force rfl rfl rfl (by decide +kernel) ⟨Nat.le_of_ble_eq_true rfl, Nat.le_of_ble_eq_true rfl⟩) (xV (fr_mid [] (OW G qo o) hP) (fr_midD [] (OW G qo o) hD) hS hK hA hE 7 0 rfl rfl) rfl rfl hl.1 rfl (lv_room (Nat.le_of_ble_eq_true rfl)) dL_force_5 ⟨Nat.le_of_ble_eq_true rfl, Nat.le_of_ble_eq_true rfl⟩) hP hD hS hA (fun _ => rfl) (fun ce q9 H locs hP hD hS hce hcv hcl => ?_)
      refine vx_catch hown [(⟨0, 10, 13, 13⟩ : ExceptionTableEntry)] (⟨0, 10, 17, 15⟩ : ExceptionTableEntry) [(⟨0, 10, 21, 42⟩ : ExceptionTableEntry)] (htab.trans rfl) (List.forall_mem_cons.mpr ⟨Or.inr ⟨by decide, "java/lang/IndexOutOfBoundsException", (w_mem hts 1 rfl), hE.2.2.2 2 1 ⟨by decide, by decide⟩ ⟨by decide, by decide⟩ (by decide)⟩, fun _ hz => absurd hz List.not_mem_nil⟩) (by decide) (by decide) (w_mem hK.2.all 66 rfl) (hK.2.at 61 rfl) hce hcv hcl ?_
      refine lv_astore (lv' := [(4, .ref q9), (0, .ref (q 0)), (1, .int x1), (2, .int x2), (3, .ref qo)]) hx hb dL_force_17 hl (by decide) rfl (fun ls hl => ?_)
      refine lv_iconst (v := 2) hx hb dL_force_19 (by decide) ?_
      exact W.iret (v := 2) hx hb hr (fun t ht _ => ⟨⟨2, (eC, o), rfl, Option.some.inj h, by show va_P G.1 vwCl (XW G q qo (eC, o)) t.heap; rw [ht]; exact hP⟩, hS.F ht⟩) hS.2.2 dL_force_20 hlocks
    by_cases h2 : ek = 5
    · subst h2
      have h : some ((3 : Int32), (eC, o)) = some out := h
      refine lv_aload_n hx hb dL_force_0 rfl (lv_at hl 3 rfl) ?_
      refine lv_iconst (v := 0) hx hb dL_force_1 (by decide) ?_
      refine lv_aload_n hx hb dL_force_2 rfl (lv_at hl 0 rfl) ?_
      refine lv_iload_n hx hb dL_force_3 rfl (lv_at hl 1 rfl) ?_
      refine lv_iload_n hx hb dL_force_4 rfl (lv_at hl 2 rfl) ?_
      refine x_call (Wd := CW G q) (e' := (5, eC)) [] (OW G qo o) (vx_runV (As := [.int x1, .int x2]) (rest := [.int 0, .ref qo]) ⟨hx, hb, hml, hown, hts⟩ (xX6_force l hl0 G q C _ x1 x2 (5, eC) hc) (cwV 2 hts gL_force_X6_force rfl rfl rfl (by decide +kernel) ⟨Nat.le_of_ble_eq_true rfl, Nat.le_of_ble_eq_true rfl⟩) (xV (fr_mid [] (OW G qo o) hP) (fr_midD [] (OW G qo o) hD) hS hK hA hE 7 0 rfl rfl) rfl rfl hl.1 rfl (lv_room (Nat.le_of_ble_eq_true rfl)) dL_force_5 ⟨Nat.le_of_ble_eq_true rfl, Nat.le_of_ble_eq_true rfl⟩) hP hD hS hA (fun _ => rfl) (fun ce q9 H locs hP hD hS hce hcv hcl => ?_)
      refine vx_catch hown [(⟨0, 10, 13, 13⟩ : ExceptionTableEntry), (⟨0, 10, 17, 15⟩ : ExceptionTableEntry)] (⟨0, 10, 21, 42⟩ : ExceptionTableEntry) [] (htab.trans rfl) (List.forall_mem_cons.mpr ⟨Or.inr ⟨by decide, "java/lang/IndexOutOfBoundsException", (w_mem hts 1 rfl), hE.2.2.2 5 1 ⟨by decide, by decide⟩ ⟨by decide, by decide⟩ (by decide)⟩, List.forall_mem_cons.mpr ⟨Or.inr ⟨by decide, "java/lang/IllegalArgumentException", (w_mem hK.2.all 66 rfl), hE.2.2.2 5 2 ⟨by decide, by decide⟩ ⟨by decide, by decide⟩ (by decide)⟩, fun _ hz => absurd hz List.not_mem_nil⟩⟩) (by decide) (by decide) (w_mem hK.2.all 69 rfl) (hK.2.at 64 rfl) hce hcv hcl ?_
      refine lv_astore (lv' := [(4, .ref q9), (0, .ref (q 0)), (1, .int x1), (2, .int x2), (3, .ref qo)]) hx hb dL_force_21 hl (by decide) rfl (fun ls hl => ?_)
      refine lv_iconst (v := 3) hx hb dL_force_23 (by decide) ?_
      exact W.iret (v := 3) hx hb hr (fun t ht _ => ⟨⟨3, (eC, o), rfl, Option.some.inj h, by show va_P G.1 vwCl (XW G q qo (eC, o)) t.heap; rw [ht]; exact hP⟩, hS.F ht⟩) hS.2.2 dL_force_24 hlocks
    · exact absurd h (by simp [lresW, cdL_force, h0, h1, h2])
  · rw [hc] at h
    refine lv_aload_n hx hb dL_force_0 rfl (lv_at hl 3 rfl) ?_
    refine lv_iconst (v := 0) hx hb dL_force_1 (by decide) ?_
    refine lv_aload_n hx hb dL_force_2 rfl (lv_at hl 0 rfl) ?_
    refine lv_iload_n hx hb dL_force_3 rfl (lv_at hl 1 rfl) ?_
    refine lv_iload_n hx hb dL_force_4 rfl (lv_at hl 2 rfl) ?_
    refine wf_i (Wd := CW G q) [] (OW G qo o) (va_runV (As := [.int x1, .int x2]) (rest := [.int 0, .ref qo]) ⟨hx, hb, hml, hown, hts⟩ (kX6_force l G q C _ x1 x2 r hc) (cwV 2 hts gL_force_X6_force rfl rfl rfl (by decide +kernel) ⟨Nat.le_of_ble_eq_true rfl, Nat.le_of_ble_eq_true rfl⟩) (wrV (fr_mid [] (OW G qo o) hP) (fr_midD [] (OW G qo o) hD) hK 7 0 rfl rfl) rfl rfl hl.1 rfl (lv_room (Nat.le_of_ble_eq_true rfl)) dL_force_5 ⟨Nat.zero_le _, Nat.zero_le _⟩) hP hD hS hA (fun _ => rfl) (fun H locs hP hD hS => ?_)
    refine lv_i2l (v := Int32.toInt64 r.1) hx hb dL_force_8 rfl ?_
    refine va_last (D := G.1) hx hb hK.1 hP hD hS 20 3 rfl rfl (by unfold vp_in; decide) dL_force_9 (fun H locs hP hD hS => ?_)
    have hP : va_P G.1 vwCl (XW G q qo (r.2, vp_updL o 0 (Int32.toInt64 r.1))) H := hP
    refine lv_goto (tgt := 25) hx hb dL_force_10 (by decide) ?_
    refine lv_iconst (v := 0) hx hb dL_force_25 (by decide) ?_
    refine W.widen (k := 1) (n := 6) (Nat.le_of_ble_eq_true rfl) (Nat.le_of_ble_eq_true rfl) ?_
    have h : some ((0 : Int32), (r.2, vp_updL o 0 (Int32.toInt64 r.1))) = some out := h
    exact W.iret (v := 0) hx hb hr (fun t ht _ => ⟨⟨0, (r.2, vp_updL o 0 (Int32.toInt64 r.1)), rfl, Option.some.inj h, by show va_P G.1 vwCl (XW G q qo (r.2, vp_updL o 0 (Int32.toInt64 r.1))) t.heap; rw [ht]; exact hP⟩, hS.F ht⟩) hS.2.2 dL_force_26 hlocks

def rmL_lineAt : Room := { frames := 8, cells := 1, slots := 6, locals := 180 }
set_option maxHeartbeats 4000000 in
set_option maxRecDepth 100000 in
theorem kL_lineAt (l : Launch) (hl0 : l.stackTraces = false) (G : GT) (q : Nat → Nat) (qo : Nat) (C : St) (o : Nat → Int64) (sz : Nat) (x1 : Int32) (out : Int32 × (St × (Nat → Int64))) (h : pL_lineAt C o x1 = some out) : Met l yL_lineAt wsL_lineAt rmL_lineAt (va_Pc [.ref (q 0), .int x1, .ref qo] (xP G (XW G q qo (C, o)) sz)) (va_Qi (fun r u => (r, u) = out) (fun u t => va_P G.1 vwCl (XW G q qo u) t.heap) (va_A (XW G q qo (C, o)) sz)) 1 6 (va_A (XW G q qo (C, o)) sz) := by
  refine va_MetW (cc := cL_lineAt) (maxL := 4) (ret := (some .int)) (by decide) rfl ?_
  intro p e s m args below meth c s₁ B hml hv
  obtain ⟨rfl, ⟨hsz, hP, hK, hD0⟩, hE⟩ := hv
  have htab := vx_table (x := yL_lineAt) B (atoms_spec (ws := wsL_lineAt) B.pre _ List.mem_cons_self)
  have bx := bx_of B hml
  subst hsz
  have hD := hD0.self (sz := s.heap.size)
  generalize hAe : va_A (XW G q qo (C, o)) s.heap.size = A at hD hE ⊢
  have hA : ∀ q : Nat, s.heap.size ≤ q → A q := fun q h => by rw [← hAe]; exact Or.inr h
  have hS : va_S A s.heap s.heap [] := va_S.rf
  have hP : va_P G.1 vwCl ([] ++ (CW G q C ++ OW G qo o)) s.heap := hP
  have hD : va_D A ([] ++ (CW G q C ++ OW G qo o)) := hD
  obtain ⟨hx, hb, hr, hts, hown, hml, hlocks⟩ := id bx
  have hl := lv_entry ([.ref (q 0), .int x1, .ref qo]) (n := 4) (Nat.le_of_ble_eq_true rfl)
  rw [lg_entry_eq]
  generalize (lg_sl ([.ref (q 0), .int x1, .ref qo]) ++ List.replicate (4 - (lg_sl ([.ref (q 0), .int x1, .ref qo])).length) Slot.unset).toArray = ls at hl ⊢
  have hl : lv_has ls 4 [(0, .ref (q 0)), (1, .int x1), (2, .ref qo)] := hl
  unfold pL_lineAt at h
  rcases hc : pX6_lineAt C x1 with _ | (⟨ek, eC⟩ | r)
  · rw [hc] at h; cases h
  · rw [hc] at h
    by_cases h0 : ek = 1
    · subst h0
      have h : some ((1 : Int32), (eC, o)) = some out := h
      refine lv_aload_n hx hb dL_lineAt_0 rfl (lv_at hl 2 rfl) ?_
      refine lv_iconst (v := 0) hx hb dL_lineAt_1 (by decide) ?_
      refine lv_aload_n hx hb dL_lineAt_2 rfl (lv_at hl 0 rfl) ?_
      refine lv_iload_n hx hb dL_lineAt_3 rfl (lv_at hl 1 rfl) ?_
      refine x_call (Wd := CW G q) (e' := (1, eC)) [] (OW G qo o) (vx_runV (As := [.int x1]) (rest := [.int 0, .ref qo]) ⟨hx, hb, hml, hown, hts⟩ (xX6_lineAt l hl0 G q C _ x1 (1, eC) hc) (cwV 1 hts gL_lineAt_X6_lineAt rfl rfl rfl (by decide +kernel) ⟨Nat.le_of_ble_eq_true rfl, Nat.le_of_ble_eq_true rfl⟩) (xV (fr_mid [] (OW G qo o) hP) (fr_midD [] (OW G qo o) hD) hS hK hA hE 7 0 rfl rfl) rfl rfl hl.1 rfl (lv_room (Nat.le_of_ble_eq_true rfl)) dL_lineAt_4 ⟨Nat.le_of_ble_eq_true rfl, Nat.le_of_ble_eq_true rfl⟩) hP hD hS hA (fun _ => rfl) (fun ce q9 H locs hP hD hS hce hcv hcl => ?_)
      refine vx_catch hown [] (⟨0, 9, 12, 13⟩ : ExceptionTableEntry) [] (htab.trans rfl) (fun _ hz => absurd hz List.not_mem_nil) (by decide) (by decide) (w_mem hts 1 rfl) (hK.2.at 60 rfl) hce hcv hcl ?_
      refine lv_astore_n (lv' := [(3, .ref q9), (0, .ref (q 0)), (1, .int x1), (2, .ref qo)]) hx hb dL_lineAt_12 rfl hl (by decide) rfl (fun ls hl => ?_)
      refine lv_iconst (v := 1) hx hb dL_lineAt_13 (by decide) ?_
      exact W.iret (v := 1) hx hb hr (fun t ht _ => ⟨⟨1, (eC, o), rfl, Option.some.inj h, by show va_P G.1 vwCl (XW G q qo (eC, o)) t.heap; rw [ht]; exact hP⟩, hS.F ht⟩) hS.2.2 dL_lineAt_14 hlocks
    · exact absurd h (by simp [lresW, cdL_lineAt, h0])
  · rw [hc] at h
    refine lv_aload_n hx hb dL_lineAt_0 rfl (lv_at hl 2 rfl) ?_
    refine lv_iconst (v := 0) hx hb dL_lineAt_1 (by decide) ?_
    refine lv_aload_n hx hb dL_lineAt_2 rfl (lv_at hl 0 rfl) ?_
    refine lv_iload_n hx hb dL_lineAt_3 rfl (lv_at hl 1 rfl) ?_
    refine wf_i (Wd := CW G q) [] (OW G qo o) (va_runV (As := [.int x1]) (rest := [.int 0, .ref qo]) ⟨hx, hb, hml, hown, hts⟩ (kX6_lineAt l G q C _ x1 r hc) (cwV 1 hts gL_lineAt_X6_lineAt rfl rfl rfl (by decide +kernel) ⟨Nat.le_of_ble_eq_true rfl, Nat.le_of_ble_eq_true rfl⟩) (wrV (fr_mid [] (OW G qo o) hP) (fr_midD [] (OW G qo o) hD) hK 7 0 rfl rfl) rfl rfl hl.1 rfl (lv_room (Nat.le_of_ble_eq_true rfl)) dL_lineAt_4 ⟨Nat.zero_le _, Nat.zero_le _⟩) hP hD hS hA (fun _ => rfl) (fun H locs hP hD hS => ?_)
    refine lv_i2l (v := Int32.toInt64 r.1) hx hb dL_lineAt_7 rfl ?_
    refine va_last (D := G.1) hx hb hK.1 hP hD hS 20 3 rfl rfl (by unfold vp_in; decide) dL_lineAt_8 (fun H locs hP hD hS => ?_)
    have hP : va_P G.1 vwCl (XW G q qo (r.2, vp_updL o 0 (Int32.toInt64 r.1))) H := hP
    refine lv_goto (tgt := 15) hx hb dL_lineAt_9 (by decide) ?_
    refine lv_iconst (v := 0) hx hb dL_lineAt_15 (by decide) ?_
    refine W.widen (k := 1) (n := 6) (Nat.le_of_ble_eq_true rfl) (Nat.le_of_ble_eq_true rfl) ?_
    have h : some ((0 : Int32), (r.2, vp_updL o 0 (Int32.toInt64 r.1))) = some out := h
    exact W.iret (v := 0) hx hb hr (fun t ht _ => ⟨⟨0, (r.2, vp_updL o 0 (Int32.toInt64 r.1)), rfl, Option.some.inj h, by show va_P G.1 vwCl (XW G q qo (r.2, vp_updL o 0 (Int32.toInt64 r.1))) t.heap; rw [ht]; exact hP⟩, hS.F ht⟩) hS.2.2 dL_lineAt_16 hlocks
