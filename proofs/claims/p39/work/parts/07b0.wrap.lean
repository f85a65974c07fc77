def rmL_addFeature : Room := { frames := 8, cells := 1, slots := 6, locals := 144 }
set_option maxHeartbeats 4000000 in
set_option maxRecDepth 100000 in
theorem kL_addFeature (l : Launch) (hl0 : l.stackTraces = false) (G : GT) (q : Nat → Nat) (C : St) (sz : Nat) (x1 : Int32) (x2 : Int32) (out : Int32 × St) (h : pL_addFeature C x1 x2 = some out) : Met l yL_addFeature wsL_addFeature rmL_addFeature (va_Pc [.ref (q 0), .int x1, .int x2] (xP G (CW G q C) sz)) (va_Qi (fun v u => (v, u) = out) (fun u t => va_P G.1 vwCl (CW G q u) t.heap) (va_A (CW G q C) sz)) 1 6 (va_A (CW G q C) sz) := by
  refine va_MetW (cc := cL_addFeature) (maxL := 4) (ret := (some .int)) (by decide) rfl ?_
  intro p e s m args below meth c s₁ B hml hv
  obtain ⟨rfl, ⟨hsz, hP, hK, hD0⟩, hE⟩ := hv
  have htab := vx_table (x := yL_addFeature) B (atoms_spec (ws := wsL_addFeature) B.pre _ List.mem_cons_self)
  have bx := bx_of B hml
  subst hsz
  have hD := hD0.self (sz := s.heap.size)
  generalize hAe : va_A (CW G q C) s.heap.size = A at hD hE ⊢
  have hA : ∀ q : Nat, s.heap.size ≤ q → A q := fun q h => by rw [← hAe]; exact Or.inr h
  have hS : va_S A s.heap s.heap [] := va_S.rf
  have hP : va_P G.1 vwCl ([] ++ (CW G q C ++ [])) s.heap := hP
  have hD : va_D A ([] ++ (CW G q C ++ [])) := hD
  obtain ⟨hx, hb, hr, hts, hown, hml, hlocks⟩ := id bx
  have hl := lv_entry ([.ref (q 0), .int x1, .int x2]) (n := 4) (Nat.le_of_ble_eq_true rfl)
  rw [lg_entry_eq]
  generalize (lg_sl ([.ref (q 0), .int x1, .int x2]) ++ List.replicate (4 - (lg_sl ([.ref (q 0), .int x1, .int x2])).length) Slot.unset).toArray = ls at hl ⊢
  have hl : lv_has ls 4 [(0, .ref (q 0)), (1, .int x1), (2, .int x2)] := hl
  rcases hc : pX6_addFeature C x1 x2 with _ | (⟨ek, eC⟩ | r)
  · unfold pL_addFeature at h; rw [hc] at h; cases h
  · unfold pL_addFeature at h; rw [hc] at h
    by_cases h0 : ek = 1
    · subst h0
      have h : some ((-900001 : Int32), eC) = some out := h
      refine lv_aload_n hx hb dL_addFeature_0 rfl (lv_at hl 0 rfl) ?_
      refine lv_iload_n hx hb dL_addFeature_1 rfl (lv_at hl 1 rfl) ?_
      refine lv_iload_n hx hb dL_addFeature_2 rfl (lv_at hl 2 rfl) ?_
      refine x_call (Wd := CW G q) (e' := (1, eC)) [] [] (vx_runV (As := [.int x1, .int x2]) (rest := []) ⟨hx, hb, hml, hown, hts⟩ (xX6_addFeature l hl0 G q C _ x1 x2 (1, eC) hc) (cwV 2 hts gL_addFeature_X6_addFeature rfl rfl rfl (by decide +kernel) ⟨Nat.le_of_ble_eq_true rfl, Nat.le_of_ble_eq_true rfl⟩) (xV (fr_mid [] [] hP) (fr_midD [] [] hD) hS hK hA hE 5 0 rfl rfl) rfl rfl hl.1 rfl (lv_room (Nat.le_of_ble_eq_true rfl)) dL_addFeature_3 ⟨Nat.le_of_ble_eq_true rfl, Nat.le_of_ble_eq_true rfl⟩) hP hD hS hA (fun _ => rfl) (fun ce q9 H locs hP hD hS hce hcv hcl => ?_)
      refine vx_catch hown [] (⟨0, 6, 7, 15⟩ : ExceptionTableEntry) [(⟨0, 6, 11, 18⟩ : ExceptionTableEntry), (⟨0, 6, 15, 21⟩ : ExceptionTableEntry)] (htab.trans rfl) (fun _ hz => absurd hz List.not_mem_nil) (by decide) (by decide) (w_mem hts 1 rfl) (hK.2.at 43 rfl) hce hcv hcl ?_
      refine lv_astore_n (lv' := [(3, .ref q9), (0, .ref (q 0)), (1, .int x1), (2, .int x2)]) hx hb dL_addFeature_7 rfl hl (by decide) rfl (fun ls hl => ?_)
      refine lv_ldc (own := RL) (v := -900001) hx hb hown (w_mem hts 4 rfl) dL_addFeature_8 ?_
      exact W.iret (v := -900001) hx hb hr (fun t ht _ => ⟨⟨-900001, eC, rfl, Option.some.inj h, by show va_P G.1 vwCl (CW G q eC) t.heap; rw [ht]; exact hP⟩, hS.F ht⟩) hS.2.2 dL_addFeature_10 hlocks
    by_cases h1 : ek = 2
    · subst h1
      have h : some ((-900002 : Int32), eC) = some out := h
      refine lv_aload_n hx hb dL_addFeature_0 rfl (lv_at hl 0 rfl) ?_
      refine lv_iload_n hx hb dL_addFeature_1 rfl (lv_at hl 1 rfl) ?_
      refine lv_iload_n hx hb dL_addFeature_2 rfl (lv_at hl 2 rfl) ?_
      refine x_call (Wd := CW G q) (e' := (2, eC)) [] [] (vx_runV (As := [.int x1, .int x2]) (rest := []) ⟨hx, hb, hml, hown, hts⟩ (xX6_addFeature l hl0 G q C _ x1 x2 (2, eC) hc) (cwV 2 hts gL_addFeature_X6_addFeature rfl rfl rfl (by decide +kernel) ⟨Nat.le_of_ble_eq_true rfl, Nat.le_of_ble_eq_true rfl⟩) (xV (fr_mid [] [] hP) (fr_midD [] [] hD) hS hK hA hE 5 0 rfl rfl) rfl rfl hl.1 rfl (lv_room (Nat.le_of_ble_eq_true rfl)) dL_addFeature_3 ⟨Nat.le_of_ble_eq_true rfl, Nat.le_of_ble_eq_true rfl⟩) hP hD hS hA (fun _ => rfl) (fun ce q9 H locs hP hD hS hce hcv hcl => ?_)
      refine vx_catch hown [(⟨0, 6, 7, 15⟩ : ExceptionTableEntry)] (⟨0, 6, 11, 18⟩ : ExceptionTableEntry) [(⟨0, 6, 15, 21⟩ : ExceptionTableEntry)] (htab.trans rfl) (List.forall_mem_cons.mpr ⟨Or.inr ⟨by decide, "java/lang/IndexOutOfBoundsException", (w_mem hts 1 rfl), hE.2.2.2 2 1 ⟨by decide, by decide⟩ ⟨by decide, by decide⟩ (by decide)⟩, fun _ hz => absurd hz List.not_mem_nil⟩) (by decide) (by decide) (w_mem hts 2 rfl) (hK.2.at 44 rfl) hce hcv hcl ?_
      refine lv_astore_n (lv' := [(3, .ref q9), (0, .ref (q 0)), (1, .int x1), (2, .int x2)]) hx hb dL_addFeature_11 rfl hl (by decide) rfl (fun ls hl => ?_)
      refine lv_ldc (own := RL) (v := -900002) hx hb hown (w_mem hts 5 rfl) dL_addFeature_12 ?_
      exact W.iret (v := -900002) hx hb hr (fun t ht _ => ⟨⟨-900002, eC, rfl, Option.some.inj h, by show va_P G.1 vwCl (CW G q eC) t.heap; rw [ht]; exact hP⟩, hS.F ht⟩) hS.2.2 dL_addFeature_14 hlocks
    by_cases h2 : ek = 3
    · subst h2
      have h : some ((-900003 : Int32), eC) = some out := h
      refine lv_aload_n hx hb dL_addFeature_0 rfl (lv_at hl 0 rfl) ?_
      refine lv_iload_n hx hb dL_addFeature_1 rfl (lv_at hl 1 rfl) ?_
      refine lv_iload_n hx hb dL_addFeature_2 rfl (lv_at hl 2 rfl) ?_
      refine x_call (Wd := CW G q) (e' := (3, eC)) [] [] (vx_runV (As := [.int x1, .int x2]) (rest := []) ⟨hx, hb, hml, hown, hts⟩ (xX6_addFeature l hl0 G q C _ x1 x2 (3, eC) hc) (cwV 2 hts gL_addFeature_X6_addFeature rfl rfl rfl (by decide +kernel) ⟨Nat.le_of_ble_eq_true rfl, Nat.le_of_ble_eq_true rfl⟩) (xV (fr_mid [] [] hP) (fr_midD [] [] hD) hS hK hA hE 5 0 rfl rfl) rfl rfl hl.1 rfl (lv_room (Nat.le_of_ble_eq_true rfl)) dL_addFeature_3 ⟨Nat.le_of_ble_eq_true rfl, Nat.le_of_ble_eq_true rfl⟩) hP hD hS hA (fun _ => rfl) (fun ce q9 H locs hP hD hS hce hcv hcl => ?_)
      refine vx_catch hown [(⟨0, 6, 7, 15⟩ : ExceptionTableEntry), (⟨0, 6, 11, 18⟩ : ExceptionTableEntry)] (⟨0, 6, 15, 21⟩ : ExceptionTableEntry) [] (htab.trans rfl) (List.forall_mem_cons.mpr ⟨Or.inr ⟨by decide, "java/lang/IndexOutOfBoundsException", (w_mem hts 1 rfl), hE.2.2.2 3 1 ⟨by decide, by decide⟩ ⟨by decide, by decide⟩ (by decide)⟩, List.forall_mem_cons.mpr ⟨Or.inr ⟨by decide, "java/lang/IllegalArgumentException", (w_mem hts 2 rfl), hE.2.2.2 3 2 ⟨by decide, by decide⟩ ⟨by decide, by decide⟩ (by decide)⟩, fun _ hz => absurd hz List.not_mem_nil⟩⟩) (by decide) (by decide) (w_mem hts 3 rfl) (hK.2.at 45 rfl) hce hcv hcl ?_
      refine lv_astore_n (lv' := [(3, .ref q9), (0, .ref (q 0)), (1, .int x1), (2, .int x2)]) hx hb dL_addFeature_15 rfl hl (by decide) rfl (fun ls hl => ?_)
      refine lv_ldc (own := RL) (v := -900003) hx hb hown (w_mem hts 6 rfl) dL_addFeature_16 ?_
      exact W.iret (v := -900003) hx hb hr (fun t ht _ => ⟨⟨-900003, eC, rfl, Option.some.inj h, by show va_P G.1 vwCl (CW G q eC) t.heap; rw [ht]; exact hP⟩, hS.F ht⟩) hS.2.2 dL_addFeature_18 hlocks
    · exact absurd h (by simp [wresW, cdL_addFeature, h0, h1, h2])
  · unfold pL_addFeature at h; rw [hc] at h
    refine lv_aload_n hx hb dL_addFeature_0 rfl (lv_at hl 0 rfl) ?_
    refine lv_iload_n hx hb dL_addFeature_1 rfl (lv_at hl 1 rfl) ?_
    refine lv_iload_n hx hb dL_addFeature_2 rfl (lv_at hl 2 rfl) ?_
    refine wf_i (Wd := CW G q) [] [] (va_runV (As := [.int x1, .int x2]) (rest := []) ⟨hx, hb, hml, hown, hts⟩ (kX6_addFeature l G q C _ x1 x2 r hc) (cwV 2 hts gL_addFeature_X6_addFeature rfl rfl rfl (by decide +kernel) ⟨Nat.le_of_ble_eq_true rfl, Nat.le_of_ble_eq_true rfl⟩) (wrV (fr_mid [] [] hP) (fr_midD [] [] hD) hK 5 0 rfl rfl) rfl rfl hl.1 rfl (lv_room (Nat.le_of_ble_eq_true rfl)) dL_addFeature_3 ⟨Nat.zero_le _, Nat.zero_le _⟩) hP hD hS hA (fun _ => rfl) (fun H locs hP hD hS => ?_)
    refine W.widen (k := 1) (n := 6) (Nat.le_of_ble_eq_true rfl) (Nat.le_of_ble_eq_true rfl) ?_
    exact W.iret (v := r.1) hx hb hr (fun t ht _ => ⟨⟨r.1, r.2, rfl, Option.some.inj h, by show va_P G.1 vwCl (CW G q r.2) t.heap; rw [ht]; exact hP⟩, hS.F ht⟩) hS.2.2 dL_addFeature_6 hlocks

def rmL_setGroup : Room := { frames := 19, cells := 1, slots := 6, locals := 479 }
set_option maxHeartbeats 4000000 in
set_option maxRecDepth 100000 in
theorem kL_setGroup (l : Launch) (hl0 : l.stackTraces = false) (G : GT) (q : Nat → Nat) (C : St) (sz : Nat) (x1 : Int32) (x2 : Int32) (x3 : Int32) (out : Int32 × St) (h : pL_setGroup C x1 x2 x3 = some out) : Met l yL_setGroup wsL_setGroup rmL_setGroup (va_Pc [.ref (q 0), .int x1, .int x2, .int x3] (xP G (CW G q C) sz)) (va_Qi (fun v u => (v, u) = out) (fun u t => va_P G.1 vwCl (CW G q u) t.heap) (va_A (CW G q C) sz)) 1 6 (va_A (CW G q C) sz) := by
  refine va_MetW (cc := cL_setGroup) (maxL := 5) (ret := (some .int)) (by decide) rfl ?_
  intro p e s m args below meth c s₁ B hml hv
  obtain ⟨rfl, ⟨hsz, hP, hK, hD0⟩, hE⟩ := hv
  have htab := vx_table (x := yL_setGroup) B (atoms_spec (ws := wsL_setGroup) B.pre _ List.mem_cons_self)
  have bx := bx_of B hml
  subst hsz
  have hD := hD0.self (sz := s.heap.size)
  generalize hAe : va_A (CW G q C) s.heap.size = A at hD hE ⊢
  have hA : ∀ q : Nat, s.heap.size ≤ q → A q := fun q h => by rw [← hAe]; exact Or.inr h
  have hS : va_S A s.heap s.heap [] := va_S.rf
  have hP : va_P G.1 vwCl ([] ++ (CW G q C ++ [])) s.heap := hP
  have hD : va_D A ([] ++ (CW G q C ++ [])) := hD
  obtain ⟨hx, hb, hr, hts, hown, hml, hlocks⟩ := id bx
  have hl := lv_entry ([.ref (q 0), .int x1, .int x2, .int x3]) (n := 5) (Nat.le_of_ble_eq_true rfl)
  rw [lg_entry_eq]
  generalize (lg_sl ([.ref (q 0), .int x1, .int x2, .int x3]) ++ List.replicate (5 - (lg_sl ([.ref (q 0), .int x1, .int x2, .int x3])).length) Slot.unset).toArray = ls at hl ⊢
  have hl : lv_has ls 5 [(0, .ref (q 0)), (1, .int x1), (2, .int x2), (3, .int x3)] := hl
  rcases hc : pX6_setGroup C x1 x2 x3 with _ | (⟨ek, eC⟩ | r)
  · unfold pL_setGroup at h; rw [hc] at h; cases h
  · unfold pL_setGroup at h; rw [hc] at h
    by_cases h0 : ek = 1
    · subst h0
      have h : some ((-900001 : Int32), eC) = some out := h
      refine lv_aload_n hx hb dL_setGroup_0 rfl (lv_at hl 0 rfl) ?_
      refine lv_iload_n hx hb dL_setGroup_1 rfl (lv_at hl 1 rfl) ?_
      refine lv_iload_n hx hb dL_setGroup_2 rfl (lv_at hl 2 rfl) ?_
      refine lv_iload_n hx hb dL_setGroup_3 rfl (lv_at hl 3 rfl) ?_
      refine x_call (Wd := CW G q) (e' := (1, eC)) [] [] (vx_runV (As := [.int x1, .int x2, .int x3]) (rest := []) ⟨hx, hb, hml, hown, hts⟩ (xX6_setGroup l hl0 G q C _ x1 x2 x3 (1, eC) hc) (cwV 3 hts gL_setGroup_X6_setGroup rfl rfl rfl (by decide +kernel) ⟨Nat.le_of_ble_eq_true rfl, Nat.le_of_ble_eq_true rfl⟩) (xV (fr_mid [] [] hP) (fr_midD [] [] hD) hS hK hA hE 5 0 rfl rfl) rfl rfl hl.1 rfl (lv_room (Nat.le_of_ble_eq_true rfl)) dL_setGroup_4 ⟨Nat.le_of_ble_eq_true rfl, Nat.le_of_ble_eq_true rfl⟩) hP hD hS hA (fun _ => rfl) (fun ce q9 H locs hP hD hS hce hcv hcl => ?_)
      refine vx_catch hown [] (⟨0, 7, 8, 15⟩ : ExceptionTableEntry) [(⟨0, 7, 13, 18⟩ : ExceptionTableEntry), (⟨0, 7, 18, 28⟩ : ExceptionTableEntry)] (htab.trans rfl) (fun _ hz => absurd hz List.not_mem_nil) (by decide) (by decide) (w_mem hts 1 rfl) (hK.2.at 43 rfl) hce hcv hcl ?_
      refine lv_astore (lv' := [(4, .ref q9), (0, .ref (q 0)), (1, .int x1), (2, .int x2), (3, .int x3)]) hx hb dL_setGroup_8 hl (by decide) rfl (fun ls hl => ?_)
      refine lv_ldc (own := RL) (v := -900001) hx hb hown (w_mem hts 4 rfl) dL_setGroup_10 ?_
      exact W.iret (v := -900001) hx hb hr (fun t ht _ => ⟨⟨-900001, eC, rfl, Option.some.inj h, by show va_P G.1 vwCl (CW G q eC) t.heap; rw [ht]; exact hP⟩, hS.F ht⟩) hS.2.2 dL_setGroup_12 hlocks
    by_cases h1 : ek = 2
    · subst h1
      have h : some ((-900002 : Int32), eC) = some out := h
      refine lv_aload_n hx hb dL_setGroup_0 rfl (lv_at hl 0 rfl) ?_
      refine lv_iload_n hx hb dL_setGroup_1 rfl (lv_at hl 1 rfl) ?_
      refine lv_iload_n hx hb dL_setGroup_2 rfl (lv_at hl 2 rfl) ?_
      refine lv_iload_n hx hb dL_setGroup_3 rfl (lv_at hl 3 rfl) ?_
      refine x_call (Wd := CW G q) (e' := (2, eC)) [] [] (vx_runV (As := [.int x1, .int x2, .int x3]) (rest := []) ⟨hx, hb, hml, hown, hts⟩ (xX6_setGroup l hl0 G q C _ x1 x2 x3 (2, eC) hc) (cwV 3 hts gL_setGroup_X6_setGroup rfl rfl rfl (by decide +kernel) ⟨Nat.le_of_ble_eq_true rfl, Nat.le_of_ble_eq_true rfl⟩) (xV (fr_mid [] [] hP) (fr_midD [] [] hD) hS hK hA hE 5 0 rfl rfl) rfl rfl hl.1 rfl (lv_room (Nat.le_of_ble_eq_true rfl)) dL_setGroup_4 ⟨Nat.le_of_ble_eq_true rfl, Nat.le_of_ble_eq_true rfl⟩) hP hD hS hA (fun _ => rfl) (fun ce q9 H locs hP hD hS hce hcv hcl => ?_)
      refine vx_catch hown [(⟨0, 7, 8, 15⟩ : ExceptionTableEntry)] (⟨0, 7, 13, 18⟩ : ExceptionTableEntry) [(⟨0, 7, 18, 28⟩ : ExceptionTableEntry)] (htab.trans rfl) (List.forall_mem_cons.mpr ⟨Or.inr ⟨by decide, "java/lang/IndexOutOfBoundsException", (w_mem hts 1 rfl), hE.2.2.2 2 1 ⟨by decide, by decide⟩ ⟨by decide, by decide⟩ (by decide)⟩, fun _ hz => absurd hz List.not_mem_nil⟩) (by decide) (by decide) (w_mem hts 2 rfl) (hK.2.at 44 rfl) hce hcv hcl ?_
      refine lv_astore (lv' := [(4, .ref q9), (0, .ref (q 0)), (1, .int x1), (2, .int x2), (3, .int x3)]) hx hb dL_setGroup_13 hl (by decide) rfl (fun ls hl => ?_)
      refine lv_ldc (own := RL) (v := -900002) hx hb hown (w_mem hts 5 rfl) dL_setGroup_15 ?_
      exact W.iret (v := -900002) hx hb hr (fun t ht _ => ⟨⟨-900002, eC, rfl, Option.some.inj h, by show va_P G.1 vwCl (CW G q eC) t.heap; rw [ht]; exact hP⟩, hS.F ht⟩) hS.2.2 dL_setGroup_17 hlocks
    by_cases h2 : ek = 4
    · subst h2
      have h : some ((-900003 : Int32), eC) = some out := h
      refine lv_aload_n hx hb dL_setGroup_0 rfl (lv_at hl 0 rfl) ?_
      refine lv_iload_n hx hb dL_setGroup_1 rfl (lv_at hl 1 rfl) ?_
      refine lv_iload_n hx hb dL_setGroup_2 rfl (lv_at hl 2 rfl) ?_
      refine lv_iload_n hx hb dL_setGroup_3 rfl (lv_at hl 3 rfl) ?_
      refine x_call (Wd := CW G q) (e' := (4, eC)) [] [] (vx_runV (As := [.int x1, .int x2, .int x3]) (rest := []) ⟨hx, hb, hml, hown, hts⟩ (xX6_setGroup l hl0 G q C _ x1 x2 x3 (4, eC) hc) (cwV 3 hts gL_setGroup_X6_setGroup rfl rfl rfl (by decide +kernel) ⟨Nat.le_of_ble_eq_true rfl, Nat.le_of_ble_eq_true rfl⟩) (xV (fr_mid [] [] hP) (fr_midD [] [] hD) hS hK hA hE 5 0 rfl rfl) rfl rfl hl.1 rfl (lv_room (Nat.le_of_ble_eq_true rfl)) dL_setGroup_4 ⟨Nat.le_of_ble_eq_true rfl, Nat.le_of_ble_eq_true rfl⟩) hP hD hS hA (fun _ => rfl) (fun ce q9 H locs hP hD hS hce hcv hcl => ?_)
      refine vx_catch hown [(⟨0, 7, 8, 15⟩ : ExceptionTableEntry), (⟨0, 7, 13, 18⟩ : ExceptionTableEntry)] (⟨0, 7, 18, 28⟩ : ExceptionTableEntry) [] (htab.trans rfl) (List.forall_mem_cons.mpr ⟨Or.inr ⟨by decide, "java/lang/IndexOutOfBoundsException", (w_mem hts 1 rfl), hE.2.2.2 4 1 ⟨by decide, by decide⟩ ⟨by decide, by decide⟩ (by decide)⟩, List.forall_mem_cons.mpr ⟨Or.inr ⟨by decide, "java/lang/IllegalArgumentException", (w_mem hts 2 rfl), hE.2.2.2 4 2 ⟨by decide, by decide⟩ ⟨by decide, by decide⟩ (by decide)⟩, fun _ hz => absurd hz List.not_mem_nil⟩⟩) (by decide) (by decide) (w_mem hts 3 rfl) (hK.2.at 46 rfl) hce hcv hcl ?_
      refine lv_astore (lv' := [(4, .ref q9), (0, .ref (q 0)), (1, .int x1), (2, .int x2), (3, .int x3)]) hx hb dL_setGroup_18 hl (by decide) rfl (fun ls hl => ?_)
      refine lv_ldc (own := RL) (v := -900003) hx hb hown (w_mem hts 6 rfl) dL_setGroup_20 ?_
      exact W.iret (v := -900003) hx hb hr (fun t ht _ => ⟨⟨-900003, eC, rfl, Option.some.inj h, by show va_P G.1 vwCl (CW G q eC) t.heap; rw [ht]; exact hP⟩, hS.F ht⟩) hS.2.2 dL_setGroup_22 hlocks
    · exact absurd h (by simp [wresW, cdL_setGroup, h0, h1, h2])
  · unfold pL_setGroup at h; rw [hc] at h
    refine lv_aload_n hx hb dL_setGroup_0 rfl (lv_at hl 0 rfl) ?_
    refine lv_iload_n hx hb dL_setGroup_1 rfl (lv_at hl 1 rfl) ?_
    refine lv_iload_n hx hb dL_setGroup_2 rfl (lv_at hl 2 rfl) ?_
    refine lv_iload_n hx hb dL_setGroup_3 rfl (lv_at hl 3 rfl) ?_
    refine wf_i (Wd := CW G q) [] [] (va_runV (As := [.int x1, .int x2, .int x3]) (rest := []) ⟨hx, hb, hml, hown, hts⟩ (kX6_setGroup l G q C _ x1 x2 x3 r hc) (cwV 3 hts gL_setGroup_X6_setGroup rfl rfl rfl (by decide +kernel) ⟨Nat.le_of_ble_eq_true rfl, Nat.le_of_ble_eq_true rfl⟩) (wrV (fr_mid [] [] hP) (fr_midD [] [] hD) hK 5 0 rfl rfl) rfl rfl hl.1 rfl (lv_room (Nat.le_of_ble_eq_true rfl)) dL_setGroup_4 ⟨Nat.zero_le _, Nat.zero_le _⟩) hP hD hS hA (fun _ => rfl) (fun H locs hP hD hS => ?_)
    refine W.widen (k := 1) (n := 6) (Nat.le_of_ble_eq_true rfl) (Nat.le_of_ble_eq_true rfl) ?_
    exact W.iret (v := r.1) hx hb hr (fun t ht _ => ⟨⟨r.1, r.2, rfl, Option.some.inj h, by show va_P G.1 vwCl (CW G q r.2) t.heap; rw [ht]; exact hP⟩, hS.F ht⟩) hS.2.2 dL_setGroup_7 hlocks

def rmL_require : Room := { frames := 20, cells := 1, slots := 6, locals := 500 }
set_option maxHeartbeats 4000000 in
set_option maxRecDepth 100000 in
theorem kL_require (l : Launch) (hl0 : l.stackTraces = false) (G : GT) (q : Nat → Nat) (C : St) (sz : Nat) (x1 : Int32) (x2 : Int32) (out : Int32 × St) (h : pL_require C x1 x2 = some out) : Met l yL_require wsL_require rmL_require (va_Pc [.ref (q 0), .int x1, .int x2] (xP G (CW G q C) sz)) (va_Qi (fun v u => (v, u) = out) (fun u t => va_P G.1 vwCl (CW G q u) t.heap) (va_A (CW G q C) sz)) 1 6 (va_A (CW G q C) sz) := by
  refine va_MetW (cc := cL_require) (maxL := 4) (ret := (some .int)) (by decide) rfl ?_
  intro p e s m args below meth c s₁ B hml hv
  obtain ⟨rfl, ⟨hsz, hP, hK, hD0⟩, hE⟩ := hv
  have htab := vx_table (x := yL_require) B (atoms_spec (ws := wsL_require) B.pre _ List.mem_cons_self)
  have bx := bx_of B hml
  subst hsz
  have hD := hD0.self (sz := s.heap.size)
  generalize hAe : va_A (CW G q C) s.heap.size = A at hD hE ⊢
  have hA : ∀ q : Nat, s.heap.size ≤ q → A q := fun q h => by rw [← hAe]; exact Or.inr h
  have hS : va_S A s.heap s.heap [] := va_S.rf
  have hP : va_P G.1 vwCl ([] ++ (CW G q C ++ [])) s.heap := hP
  have hD : va_D A ([] ++ (CW G q C ++ [])) := hD
  obtain ⟨hx, hb, hr, hts, hown, hml, hlocks⟩ := id bx
  have hl := lv_entry ([.ref (q 0), .int x1, .int x2]) (n := 4) (Nat.le_of_ble_eq_true rfl)
  rw [lg_entry_eq]
  generalize (lg_sl ([.ref (q 0), .int x1, .int x2]) ++ List.replicate (4 - (lg_sl ([.ref (q 0), .int x1, .int x2])).length) Slot.unset).toArray = ls at hl ⊢
  have hl : lv_has ls 4 [(0, .ref (q 0)), (1, .int x1), (2, .int x2)] := hl
  rcases hc : pX6_require C x1 x2 with _ | (⟨ek, eC⟩ | r)
  · unfold pL_require at h; rw [hc] at h; cases h
  · unfold pL_require at h; rw [hc] at h
    by_cases h0 : ek = 1
    · subst h0
      have h : some ((-900001 : Int32), eC) = some out := h
      refine lv_aload_n hx hb dL_require_0 rfl (lv_at hl 0 rfl) ?_
      refine lv_iload_n hx hb dL_require_1 rfl (lv_at hl 1 rfl) ?_
      refine lv_iload_n hx hb dL_require_2 rfl (lv_at hl 2 rfl) ?_
      refine x_call (Wd := CW G q) (e' := (1, eC)) [] [] (vx_runV (As := [.int x1, .int x2]) (rest := []) ⟨hx, hb, hml, hown, hts⟩ (xX6_require l hl0 G q C _ x1 x2 (1, eC) hc) (cwV 2 hts gL_require_X6_require rfl rfl rfl (by decide +kernel) ⟨Nat.le_of_ble_eq_true rfl, Nat.le_of_ble_eq_true rfl⟩) (xV (fr_mid [] [] hP) (fr_midD [] [] hD) hS hK hA hE 5 0 rfl rfl) rfl rfl hl.1 rfl (lv_room (Nat.le_of_ble_eq_true rfl)) dL_require_3 ⟨Nat.le_of_ble_eq_true rfl, Nat.le_of_ble_eq_true rfl⟩) hP hD hS hA (fun _ => rfl) (fun ce q9 H locs hP hD hS hce hcv hcl => ?_)
      refine vx_catch hown [] (⟨0, 6, 7, 15⟩ : ExceptionTableEntry) [(⟨0, 6, 11, 18⟩ : ExceptionTableEntry), (⟨0, 6, 15, 21⟩ : ExceptionTableEntry), (⟨0, 6, 19, 28⟩ : ExceptionTableEntry)] (htab.trans rfl) (fun _ hz => absurd hz List.not_mem_nil) (by decide) (by decide) (w_mem hts 1 rfl) (hK.2.at 43 rfl) hce hcv hcl ?_
      refine lv_astore_n (lv' := [(3, .ref q9), (0, .ref (q 0)), (1, .int x1), (2, .int x2)]) hx hb dL_require_7 rfl hl (by decide) rfl (fun ls hl => ?_)
      refine lv_ldc (own := RL) (v := -900001) hx hb hown (w_mem hts 5 rfl) dL_require_8 ?_
      exact W.iret (v := -900001) hx hb hr (fun t ht _ => ⟨⟨-900001, eC, rfl, Option.some.inj h, by show va_P G.1 vwCl (CW G q eC) t.heap; rw [ht]; exact hP⟩, hS.F ht⟩) hS.2.2 dL_require_10 hlocks
    by_cases h1 : ek = 2
    · subst h1
      have h : some ((-900002 : Int32), eC) = some out := h
      refine lv_aload_n hx hb dL_require_0 rfl (lv_at hl 0 rfl) ?_
      refine lv_iload_n hx hb dL_require_1 rfl (lv_at hl 1 rfl) ?_
      refine lv_iload_n hx hb dL_require_2 rfl (lv_at hl 2 rfl) ?_
      refine x_call (Wd := CW G q) (e' := (2, eC)) [] [] (vx_runV (As := [.int x1, .int x2]) (rest := []) ⟨hx, hb, hml, hown, hts⟩ (xX6_require l hl0 G q C _ x1 x2 (2, eC) hc) (cwV 2 hts gL_require_X6_require rfl rfl rfl (by decide +kernel) ⟨Nat.le_of_ble_eq_true rfl, Nat.le_of_ble_eq_true rfl⟩) (xV (fr_mid [] [] hP) (fr_midD [] [] hD) hS hK hA hE 5 0 rfl rfl) rfl rfl hl.1 rfl (lv_room (Nat.le_of_ble_eq_true rfl)) dL_require_3 ⟨Nat.le_of_ble_eq_true rfl, Nat.le_of_ble_eq_true rfl⟩) hP hD hS hA (fun _ => rfl) (fun ce q9 H locs hP hD hS hce hcv hcl => ?_)
      refine vx_catch hown [(⟨0, 6, 7, 15⟩ : ExceptionTableEntry)] (⟨0, 6, 11, 18⟩ : ExceptionTableEntry) [(⟨0, 6, 15, 21⟩ : ExceptionTableEntry), (⟨0, 6, 19, 28⟩ : ExceptionTableEntry)] (htab.trans rfl) (List.forall_mem_cons.mpr ⟨Or.inr ⟨by decide, "java/lang/IndexOutOfBoundsException", (w_mem hts 1 rfl), hE.2.2.2 2 1 ⟨by decide, by decide⟩ ⟨by decide, by decide⟩ (by decide)⟩, fun _ hz => absurd hz List.not_mem_nil⟩) (by decide) (by decide) (w_mem hts 2 rfl) (hK.2.at 44 rfl) hce hcv hcl ?_
      refine lv_astore_n (lv' := [(3, .ref q9), (0, .ref (q 0)), (1, .int x1), (2, .int x2)]) hx hb dL_require_11 rfl hl (by decide) rfl (fun ls hl => ?_)
      refine lv_ldc (own := RL) (v := -900002) hx hb hown (w_mem hts 6 rfl) dL_require_12 ?_
      exact W.iret (v := -900002) hx hb hr (fun t ht _ => ⟨⟨-900002, eC, rfl, Option.some.inj h, by show va_P G.1 vwCl (CW G q eC) t.heap; rw [ht]; exact hP⟩, hS.F ht⟩) hS.2.2 dL_require_14 hlocks
    by_cases h2 : ek = 3
    · subst h2
      have h : some ((-900003 : Int32), eC) = some out := h
      refine lv_aload_n hx hb dL_require_0 rfl (lv_at hl 0 rfl) ?_
      refine lv_iload_n hx hb dL_require_1 rfl (lv_at hl 1 rfl) ?_
      refine lv_iload_n hx hb dL_require_2 rfl (lv_at hl 2 rfl) ?_
      refine x_call (Wd := CW G q) (e' := (3, eC)) [] [] (vx_runV (As := [.int x1, .int x2]) (rest := []) ⟨hx, hb, hml, hown, hts⟩ (xX6_require l hl0 G q C _ x1 x2 (3, eC) hc) (cwV 2 hts gL_require_X6_require rfl rfl rfl (by decide +kernel) ⟨Nat.le_of_ble_eq_true rfl, Nat.le_of_ble_eq_true rfl⟩) (xV (fr_mid [] [] hP) (fr_midD [] [] hD) hS hK hA hE 5 0 rfl rfl) rfl rfl hl.1 rfl (lv_room (Nat.le_of_ble_eq_true rfl)) dL_require_3 ⟨Nat.le_of_ble_eq_true rfl, Nat.le_of_ble_eq_true rfl⟩) hP hD hS hA (fun _ => rfl) (fun ce q9 H locs hP hD hS hce hcv hcl => ?_)
      refine vx_catch hown [(⟨0, 6, 7, 15⟩ : ExceptionTableEntry), (⟨0, 6, 11, 18⟩ : ExceptionTableEntry)] (⟨0, 6, 15, 21⟩ : ExceptionTableEntry) [(⟨0, 6, 19, 28⟩ : ExceptionTableEntry)] (htab.trans rfl) (List.forall_mem_cons.mpr ⟨Or.inr ⟨by decide, "java/lang/IndexOutOfBoundsException", (w_mem hts 1 rfl), hE.2.2.2 3 1 ⟨by decide, by decide⟩ ⟨by decide, by decide⟩ (by decide)⟩, List.forall_mem_cons.mpr ⟨Or.inr ⟨by decide, "java/lang/IllegalArgumentException", (w_mem hts 2 rfl), hE.2.2.2 3 2 ⟨by decide, by decide⟩ ⟨by decide, by decide⟩ (by decide)⟩, fun _ hz => absurd hz List.not_mem_nil⟩⟩) (by decide) (by decide) (w_mem hts 3 rfl) (hK.2.at 45 rfl) hce hcv hcl ?_
      refine lv_astore_n (lv' := [(3, .ref q9), (0, .ref (q 0)), (1, .int x1), (2, .int x2)]) hx hb dL_require_15 rfl hl (by decide) rfl (fun ls hl => ?_)
      refine lv_ldc (own := RL) (v := -900003) hx hb hown (w_mem hts 7 rfl) dL_require_16 ?_
      exact W.iret (v := -900003) hx hb hr (fun t ht _ => ⟨⟨-900003, eC, rfl, Option.some.inj h, by show va_P G.1 vwCl (CW G q eC) t.heap; rw [ht]; exact hP⟩, hS.F ht⟩) hS.2.2 dL_require_18 hlocks
    by_cases h3 : ek = 4
    · subst h3
      have h : some ((-900004 : Int32), eC) = some out := h
      refine lv_aload_n hx hb dL_require_0 rfl (lv_at hl 0 rfl) ?_
      refine lv_iload_n hx hb dL_require_1 rfl (lv_at hl 1 rfl) ?_
      refine lv_iload_n hx hb dL_require_2 rfl (lv_at hl 2 rfl) ?_
      refine x_call (Wd := CW G q) (e' := (4, eC)) [] [] (vx_runV (As := [.int x1, .int x2]) (rest := []) ⟨hx, hb, hml, hown, hts⟩ (xX6_require l hl0 G q C _ x1 x2 (4, eC) hc) (cwV 2 hts gL_require_X6_require rfl rfl rfl (by decide +kernel) ⟨Nat.le_of_ble_eq_true rfl, Nat.le_of_ble_eq_true rfl⟩) (xV (fr_mid [] [] hP) (fr_midD [] [] hD) hS hK hA hE 5 0 rfl rfl) rfl rfl hl.1 rfl (lv_room (Nat.le_of_ble_eq_true rfl)) dL_require_3 ⟨Nat.le_of_ble_eq_true rfl, Nat.le_of_ble_eq_true rfl⟩) hP hD hS hA (fun _ => rfl) (fun ce q9 H locs hP hD hS hce hcv hcl => ?_)
      refine vx_catch hown [(⟨0, 6, 7, 15⟩ : ExceptionTableEntry), (⟨0, 6, 11, 18⟩ : ExceptionTableEntry), (⟨0, 6, 15, 21⟩ : ExceptionTableEntry)] (⟨0, 6, 19, 28⟩ : ExceptionTableEntry) [] (htab.trans rfl) (List.forall_mem_cons.mpr ⟨Or.inr ⟨by decide, "java/lang/IndexOutOfBoundsException", (w_mem hts 1 rfl), hE.2.2.2 4 1 ⟨by decide, by decide⟩ ⟨by decide, by decide⟩ (by decide)⟩, List.forall_mem_cons.mpr ⟨Or.inr ⟨by decide, "java/lang/IllegalArgumentException", (w_mem hts 2 rfl), hE.2.2.2 4 2 ⟨by decide, by decide⟩ ⟨by decide, by decide⟩ (by decide)⟩, List.forall_mem_cons.mpr ⟨Or.inr ⟨by decide, "java/lang/IllegalStateException", (w_mem hts 3 rfl), hE.2.2.2 4 3 ⟨by decide, by decide⟩ ⟨by decide, by decide⟩ (by decide)⟩, fun _ hz => absurd hz List.not_mem_nil⟩⟩⟩) (by decide) (by decide) (w_mem hts 4 rfl) (hK.2.at 46 rfl) hce hcv hcl ?_
      refine lv_astore_n (lv' := [(3, .ref q9), (0, .ref (q 0)), (1, .int x1), (2, .int x2)]) hx hb dL_require_19 rfl hl (by decide) rfl (fun ls hl => ?_)
      refine lv_ldc (own := RL) (v := -900004) hx hb hown (w_mem hts 8 rfl) dL_require_20 ?_
      exact W.iret (v := -900004) hx hb hr (fun t ht _ => ⟨⟨-900004, eC, rfl, Option.some.inj h, by show va_P G.1 vwCl (CW G q eC) t.heap; rw [ht]; exact hP⟩, hS.F ht⟩) hS.2.2 dL_require_22 hlocks
    · exact absurd h (by simp [wresW, cdL_require, h0, h1, h2, h3])
  · unfold pL_require at h; rw [hc] at h
    refine lv_aload_n hx hb dL_require_0 rfl (lv_at hl 0 rfl) ?_
    refine lv_iload_n hx hb dL_require_1 rfl (lv_at hl 1 rfl) ?_
    refine lv_iload_n hx hb dL_require_2 rfl (lv_at hl 2 rfl) ?_
    refine wf_i (Wd := CW G q) [] [] (va_runV (As := [.int x1, .int x2]) (rest := []) ⟨hx, hb, hml, hown, hts⟩ (kX6_require l G q C _ x1 x2 r hc) (cwV 2 hts gL_require_X6_require rfl rfl rfl (by decide +kernel) ⟨Nat.le_of_ble_eq_true rfl, Nat.le_of_ble_eq_true rfl⟩) (wrV (fr_mid [] [] hP) (fr_midD [] [] hD) hK 5 0 rfl rfl) rfl rfl hl.1 rfl (lv_room (Nat.le_of_ble_eq_true rfl)) dL_require_3 ⟨Nat.zero_le _, Nat.zero_le _⟩) hP hD hS hA (fun _ => rfl) (fun H locs hP hD hS => ?_)
    refine W.widen (k := 1) (n := 6) (Nat.le_of_ble_eq_true rfl) (Nat.le_of_ble_eq_true rfl) ?_
    exact W.iret (v := r.1) hx hb hr (fun t ht _ => ⟨⟨r.1, r.2, rfl, Option.some.inj h, by show va_P G.1 vwCl (CW G q r.2) t.heap; rw [ht]; exact hP⟩, hS.F ht⟩) hS.2.2 dL_require_6 hlocks

def rmL_exclude : Room := { frames := 20, cells := 1, slots := 6, locals := 500 }
set_option maxHeartbeats 4000000 in
set_option maxRecDepth 100000 in
theorem kL_exclude (l : Launch) (hl0 : l.stackTraces = false) (G : GT) (q : Nat → Nat) (C : St) (sz : Nat) (x1 : Int32) (x2 : Int32) (out : Int32 × St) (h : pL_exclude C x1 x2 = some out) : Met l yL_exclude wsL_exclude rmL_exclude (va_Pc [.ref (q 0), .int x1, .int x2] (xP G (CW G q C) sz)) (va_Qi (fun v u => (v, u) = out) (fun u t => va_P G.1 vwCl (CW G q u) t.heap) (va_A (CW G q C) sz)) 1 6 (va_A (CW G q C) sz) := by
  refine va_MetW (cc := cL_exclude) (maxL := 4) (ret := (some .int)) (by decide) rfl ?_
  intro p e s m args below meth c s₁ B hml hv
  obtain ⟨rfl, ⟨hsz, hP, hK, hD0⟩, hE⟩ := hv
  have htab := vx_table (x := yL_exclude) B (atoms_spec (ws := wsL_exclude) B.pre _ List.mem_cons_self)
  have bx := bx_of B hml
  subst hsz
  have hD := hD0.self (sz := s.heap.size)
  generalize hAe : va_A (CW G q C) s.heap.size = A at hD hE ⊢
  have hA : ∀ q : Nat, s.heap.size ≤ q → A q := fun q h => by rw [← hAe]; exact Or.inr h
  have hS : va_S A s.heap s.heap [] := va_S.rf
  have hP : va_P G.1 vwCl ([] ++ (CW G q C ++ [])) s.heap := hP
  have hD : va_D A ([] ++ (CW G q C ++ [])) := hD
  obtain ⟨hx, hb, hr, hts, hown, hml, hlocks⟩ := id bx
  have hl := lv_entry ([.ref (q 0), .int x1, .int x2]) (n := 4) (Nat.le_of_ble_eq_true rfl)
  rw [lg_entry_eq]
  generalize (lg_sl ([.ref (q 0), .int x1, .int x2]) ++ List.replicate (4 - (lg_sl ([.ref (q 0), .int x1, .int x2])).length) Slot.unset).toArray = ls at hl ⊢
  have hl : lv_has ls 4 [(0, .ref (q 0)), (1, .int x1), (2, .int x2)] := hl
  rcases hc : pX6_exclude C x1 x2 with _ | (⟨ek, eC⟩ | r)
  · unfold pL_exclude at h; rw [hc] at h; cases h
  · unfold pL_exclude at h; rw [hc] at h
    by_cases h0 : ek = 1
    · subst h0
      have h : some ((-900001 : Int32), eC) = some out := h
      refine lv_aload_n hx hb dL_exclude_0 rfl (lv_at hl 0 rfl) ?_
      refine lv_iload_n hx hb dL_exclude_1 rfl (lv_at hl 1 rfl) ?_
      refine lv_iload_n hx hb dL_exclude_2 rfl (lv_at hl 2 rfl) ?_
      refine x_call (Wd := CW G q) (e' := (1, eC)) [] [] (vx_runV (As := [.int x1, .int x2]) (rest := []) ⟨hx, hb, hml, hown, hts⟩ (xX6_exclude l hl0 G q C _ x1 x2 (1, eC) hc) (cwV 2 hts gL_exclude_X6_exclude rfl rfl rfl (by decide +kernel) ⟨Nat.le_of_ble_eq_true rfl, Nat.le_of_ble_eq_true rfl⟩) (xV (fr_mid [] [] hP) (fr_midD [] [] hD) hS hK hA hE 5 0 rfl rfl) rfl rfl hl.1 rfl (lv_room (Nat.le_of_ble_eq_true rfl)) dL_exclude_3 ⟨Nat.le_of_ble_eq_true rfl, Nat.le_of_ble_eq_true rfl⟩) hP hD hS hA (fun _ => rfl) (fun ce q9 H locs hP hD hS hce hcv hcl => ?_)
      refine vx_catch hown [] (⟨0, 6, 7, 15⟩ : ExceptionTableEntry) [(⟨0, 6, 11, 18⟩ : ExceptionTableEntry), (⟨0, 6, 15, 21⟩ : ExceptionTableEntry), (⟨0, 6, 19, 28⟩ : ExceptionTableEntry)] (htab.trans rfl) (fun _ hz => absurd hz List.not_mem_nil) (by decide) (by decide) (w_mem hts 1 rfl) (hK.2.at 43 rfl) hce hcv hcl ?_
      refine lv_astore_n (lv' := [(3, .ref q9), (0, .ref (q 0)), (1, .int x1), (2, .int x2)]) hx hb dL_exclude_7 rfl hl (by decide) rfl (fun ls hl => ?_)
      refine lv_ldc (own := RL) (v := -900001) hx hb hown (w_mem hts 5 rfl) dL_exclude_8 ?_
      exact W.iret (v := -900001) hx hb hr (fun t ht _ => ⟨⟨-900001, eC, rfl, Option.some.inj h, by show va_P G.1 vwCl (CW G q eC) t.heap; rw [ht]; exact hP⟩, hS.F ht⟩) hS.2.2 dL_exclude_10 hlocks
    by_cases h1 : ek = 2
    · subst h1
      have h : some ((-900002 : Int32), eC) = some out := h
      refine lv_aload_n hx hb dL_exclude_0 rfl (lv_at hl 0 rfl) ?_
      refine lv_iload_n hx hb dL_exclude_1 rfl (lv_at hl 1 rfl) ?_
      refine lv_iload_n hx hb dL_exclude_2 rfl (lv_at hl 2 rfl) ?_
      refine x_call (Wd := CW G q) (e' := (2, eC)) [] [] (vx_runV (As := [.int x1, .int x2]) (rest := []) ⟨hx, hb, hml, hown, hts⟩ (xX6_exclude l hl0 G q C _ x1 x2 (2, eC) hc) (cwV 2 hts gL_exclude_X6_exclude rfl rfl rfl (by decide +kernel) ⟨Nat.le_of_ble_eq_true rfl, Nat.le_of_ble_eq_true rfl⟩) (xV (fr_mid [] [] hP) (fr_midD [] [] hD) hS hK hA hE 5 0 rfl rfl) rfl rfl hl.1 rfl (lv_room (Nat.le_of_ble_eq_true rfl)) dL_exclude_3 ⟨Nat.le_of_ble_eq_true rfl, Nat.le_of_ble_eq_true rfl⟩) hP hD hS hA (fun _ => rfl) (fun ce q9 H locs hP hD hS hce hcv hcl => ?_)
      refine vx_catch hown [(⟨0, 6, 7, 15⟩ : ExceptionTableEntry)] (⟨0, 6, 11, 18⟩ : ExceptionTableEntry) [(⟨0, 6, 15, 21⟩ : ExceptionTableEntry), (⟨0, 6, 19, 28⟩ : ExceptionTableEntry)] (htab.trans rfl) (List.forall_mem_cons.mpr ⟨Or.inr ⟨by decide, "java/lang/IndexOutOfBoundsException", (w_mem hts 1 rfl), hE.2.2.2 2 1 ⟨by decide, by decide⟩ ⟨by decide, by decide⟩ (by decide)⟩, fun _ hz => absurd hz List.not_mem_nil⟩) (by decide) (by decide) (w_mem hts 2 rfl) (hK.2.at 44 rfl) hce hcv hcl ?_
      refine lv_astore_n (lv' := [(3, .ref q9), (0, .ref (q 0)), (1, .int x1), (2, .int x2)]) hx hb dL_exclude_11 rfl hl (by decide) rfl (fun ls hl => ?_)
      refine lv_ldc (own := RL) (v := -900002) hx hb hown (w_mem hts 6 rfl) dL_exclude_12 ?_
      exact W.iret (v := -900002) hx hb hr (fun t ht _ => ⟨⟨-900002, eC, rfl, Option.some.inj h, by show va_P G.1 vwCl (CW G q eC) t.heap; rw [ht]; exact hP⟩, hS.F ht⟩) hS.2.2 dL_exclude_14 hlocks
    by_cases h2 : ek = 3
    · subst h2
      have h : some ((-900003 : Int32), eC) = some out := h
      refine lv_aload_n hx hb dL_exclude_0 rfl (lv_at hl 0 rfl) ?_
      refine lv_iload_n hx hb dL_exclude_1 rfl (lv_at hl 1 rfl) ?_
      refine lv_iload_n hx hb dL_exclude_2 rfl (lv_at hl 2 rfl) ?_
      refine x_call (Wd := CW G q) (e' := (3, eC)) [] [] (vx_runV (As := [.int x1, .int x2]) (rest := []) ⟨hx, hb, hml, hown, hts⟩ (xX6_exclude l hl0 G q C _ x1 x2 (3, eC) hc) (cwV 2 hts gL_exclude_X6_exclude rfl rfl rfl (by decide +kernel) ⟨Nat.le_of_ble_eq_true rfl, Nat.le_of_ble_eq_true rfl⟩) (xV (fr_mid [] [] hP) (fr_midD [] [] hD) hS hK hA hE 5 0 rfl rfl) rfl rfl hl.1 rfl (lv_room (Nat.le_of_ble_eq_true rfl)) dL_exclude_3 ⟨Nat.le_of_ble_eq_true rfl, Nat.le_of_ble_eq_true rfl⟩) hP hD hS hA (fun _ => rfl) (fun ce q9 H locs hP hD hS hce hcv hcl => ?_)
      refine vx_catch hown [(⟨0, 6, 7, 15⟩ : ExceptionTableEntry), (⟨0, 6, 11, 18⟩ : ExceptionTableEntry)] (⟨0, 6, 15, 21⟩ : ExceptionTableEntry) [(⟨0, 6, 19, 28⟩ : ExceptionTableEntry)] (htab.trans rfl) (List.forall_mem_cons.mpr ⟨Or.inr ⟨by decide, "java/lang/IndexOutOfBoundsException", (w_mem hts 1 rfl), hE.2.2.2 3 1 ⟨by decide, by decide⟩ ⟨by decide, by decide⟩ (by decide)⟩, List.forall_mem_cons.mpr ⟨Or.inr ⟨by decide, "java/lang/IllegalArgumentException", (w_mem hts 2 rfl), hE.2.2.2 3 2 ⟨by decide, by decide⟩ ⟨by decide, by decide⟩ (by decide)⟩, fun _ hz => absurd hz List.not_mem_nil⟩⟩) (by decide) (by decide) (w_mem hts 3 rfl) (hK.2.at 45 rfl) hce hcv hcl ?_
      refine lv_astore_n (lv' := [(3, .ref q9), (0, .ref (q 0)), (1, .int x1), (2, .int x2)]) hx hb dL_exclude_15 rfl hl (by decide) rfl (fun ls hl => ?_)
      refine lv_ldc (own := RL) (v := -900003) hx hb hown (w_mem hts 7 rfl) dL_exclude_16 ?_
      exact W.iret (v := -900003) hx hb hr (fun t ht _ => ⟨⟨-900003, eC, rfl, Option.some.inj h, by show va_P G.1 vwCl (CW G q eC) t.heap; rw [ht]; exact hP⟩, hS.F ht⟩) hS.2.2 dL_exclude_18 hlocks
    by_cases h3 : ek = 4
    · subst h3
      have h : some ((-900004 : Int32), eC) = some out := h
      refine lv_aload_n hx hb dL_exclude_0 rfl (lv_at hl 0 rfl) ?_
      refine lv_iload_n hx hb dL_exclude_1 rfl (lv_at hl 1 rfl) ?_
      refine lv_iload_n hx hb dL_exclude_2 rfl (lv_at hl 2 rfl) ?_
      refine x_call (Wd := CW G q) (e' := (4, eC)) [] [] (vx_runV (As := [.int x1, .int x2]) (rest := []) ⟨hx, hb, hml, hown, hts⟩ (xX6_exclude l hl0 G q C _ x1 x2 (4, eC) hc) (cwV 2 hts gL_exclude_X6_exclude rfl rfl rfl (by decide +kernel) ⟨Nat.le_of_ble_eq_true rfl, Nat.le_of_ble_eq_true rfl⟩) (xV (fr_mid [] [] hP) (fr_midD [] [] hD) hS hK hA hE 5 0 rfl rfl) rfl rfl hl.1 rfl (lv_room (Nat.le_of_ble_eq_true rfl)) dL_exclude_3 ⟨Nat.le_of_ble_eq_true rfl, Nat.le_of_ble_eq_true rfl⟩) hP hD hS hA (fun _ => rfl) (fun ce q9 H locs hP hD hS hce hcv hcl => ?_)
      refine vx_catch hown [(⟨0, 6, 7, 15⟩ : ExceptionTableEntry), (⟨0, 6, 11, 18⟩ : ExceptionTableEntry), (⟨0, 6, 15, 21⟩ : ExceptionTableEntry)] (⟨0, 6, 19, 28⟩ : ExceptionTableEntry) [] (htab.trans rfl) (List.forall_mem_cons.mpr ⟨Or.inr ⟨by decide, "java/lang/IndexOutOfBoundsException", (w_mem hts 1 rfl), hE.2.2.2 4 1 ⟨by decide, by decide⟩ ⟨by decide, by decide⟩ (by decide)⟩, List.forall_mem_cons.mpr ⟨Or.inr ⟨by decide, "java/lang/IllegalArgumentException", (w_mem hts 2 rfl), hE.2.2.2 4 2 ⟨by decide, by decide⟩ ⟨by decide, by decide⟩ (by decide)⟩, List.forall_mem_cons.mpr ⟨Or.inr ⟨by decide, "java/lang/IllegalStateException", (w_mem hts 3 rfl), hE.2.2.2 4 3 ⟨by decide, by decide⟩ ⟨by decide, by decide⟩ (by decide)⟩, fun _ hz => absurd hz List.not_mem_nil⟩⟩⟩) (by decide) (by decide) (w_mem hts 4 rfl) (hK.2.at 46 rfl) hce hcv hcl ?_
      refine lv_astore_n (lv' := [(3, .ref q9), (0, .ref (q 0)), (1, .int x1), (2, .int x2)]) hx hb dL_exclude_19 rfl hl (by decide) rfl (fun ls hl => ?_)
      refine lv_ldc (own := RL) (v := -900004) hx hb hown (w_mem hts 8 rfl) dL_exclude_20 ?_
      exact W.iret (v := -900004) hx hb hr (fun t ht _ => ⟨⟨-900004, eC, rfl, Option.some.inj h, by show va_P G.1 vwCl (CW G q eC) t.heap; rw [ht]; exact hP⟩, hS.F ht⟩) hS.2.2 dL_exclude_22 hlocks
    · exact absurd h (by simp [wresW, cdL_exclude, h0, h1, h2, h3])
  · unfold pL_exclude at h; rw [hc] at h
    refine lv_aload_n hx hb dL_exclude_0 rfl (lv_at hl 0 rfl) ?_
    refine lv_iload_n hx hb dL_exclude_1 rfl (lv_at hl 1 rfl) ?_
    refine lv_iload_n hx hb dL_exclude_2 rfl (lv_at hl 2 rfl) ?_
    refine wf_i (Wd := CW G q) [] [] (va_runV (As := [.int x1, .int x2]) (rest := []) ⟨hx, hb, hml, hown, hts⟩ (kX6_exclude l G q C _ x1 x2 r hc) (cwV 2 hts gL_exclude_X6_exclude rfl rfl rfl (by decide +kernel) ⟨Nat.le_of_ble_eq_true rfl, Nat.le_of_ble_eq_true rfl⟩) (wrV (fr_mid [] [] hP) (fr_midD [] [] hD) hK 5 0 rfl rfl) rfl rfl hl.1 rfl (lv_room (Nat.le_of_ble_eq_true rfl)) dL_exclude_3 ⟨Nat.zero_le _, Nat.zero_le _⟩) hP hD hS hA (fun _ => rfl) (fun H locs hP hD hS => ?_)
    refine W.widen (k := 1) (n := 6) (Nat.le_of_ble_eq_true rfl) (Nat.le_of_ble_eq_true rfl) ?_
    exact W.iret (v := r.1) hx hb hr (fun t ht _ => ⟨⟨r.1, r.2, rfl, Option.some.inj h, by show va_P G.1 vwCl (CW G q r.2) t.heap; rw [ht]; exact hP⟩, hS.F ht⟩) hS.2.2 dL_exclude_6 hlocks

def rmL_any : Room := { frames := 20, cells := 1, slots := 6, locals := 502 }
set_option maxHeartbeats 4000000 in
set_option maxRecDepth 100000 in
theorem kL_any (l : Launch) (hl0 : l.stackTraces = false) (G : GT) (q : Nat → Nat) (C : St) (sz : Nat) (x1 : Int32) (x2 : Int32) (x3 : Int32) (out : Int32 × St) (h : pL_any C x1 x2 x3 = some out) : Met l yL_any wsL_any rmL_any (va_Pc [.ref (q 0), .int x1, .int x2, .int x3] (xP G (CW G q C) sz)) (va_Qi (fun v u => (v, u) = out) (fun u t => va_P G.1 vwCl (CW G q u) t.heap) (va_A (CW G q C) sz)) 1 6 (va_A (CW G q C) sz) := by
  refine va_MetW (cc := cL_any) (maxL := 5) (ret := (some .int)) (by decide) rfl ?_
  intro p e s m args below meth c s₁ B hml hv
  obtain ⟨rfl, ⟨hsz, hP, hK, hD0⟩, hE⟩ := hv
  have htab := vx_table (x := yL_any) B (atoms_spec (ws := wsL_any) B.pre _ List.mem_cons_self)
  have bx := bx_of B hml
  subst hsz
  have hD := hD0.self (sz := s.heap.size)
  generalize hAe : va_A (CW G q C) s.heap.size = A at hD hE ⊢
  have hA : ∀ q : Nat, s.heap.size ≤ q → A q := fun q h => by rw [← hAe]; exact Or.inr h
  have hS : va_S A s.heap s.heap [] := va_S.rf
  have hP : va_P G.1 vwCl ([] ++ (CW G q C ++ [])) s.heap := hP
  have hD : va_D A ([] ++ (CW G q C ++ [])) := hD
  obtain ⟨hx, hb, hr, hts, hown, hml, hlocks⟩ := id bx
  have hl := lv_entry ([.ref (q 0), .int x1, .int x2, .int x3]) (n := 5) (Nat.le_of_ble_eq_true rfl)
  rw [lg_entry_eq]
  generalize (lg_sl ([.ref (q 0), .int x1, .int x2, .int x3]) ++ List.replicate (5 - (lg_sl ([.ref (q 0), .int x1, .int x2, .int x3])).length) Slot.unset).toArray = ls at hl ⊢
  have hl : lv_has ls 5 [(0, .ref (q 0)), (1, .int x1), (2, .int x2), (3, .int x3)] := hl
  rcases hc : pX6_any C x1 x2 x3 with _ | (⟨ek, eC⟩ | r)
  · unfold pL_any at h; rw [hc] at h; cases h
  · unfold pL_any at h; rw [hc] at h
    by_cases h0 : ek = 1
    · subst h0
      have h : some ((-900001 : Int32), eC) = some out := h
      refine lv_aload_n hx hb dL_any_0 rfl (lv_at hl 0 rfl) ?_
      refine lv_iload_n hx hb dL_any_1 rfl (lv_at hl 1 rfl) ?_
      refine lv_iload_n hx hb dL_any_2 rfl (lv_at hl 2 rfl) ?_
      refine lv_iload_n hx hb dL_any_3 rfl (lv_at hl 3 rfl) ?_
      refine x_call (Wd := CW G q) (e' := (1, eC)) [] [] (vx_runV (As := [.int x1, .int x2, .int x3]) (rest := []) ⟨hx, hb, hml, hown, hts⟩ (xX6_any l hl0 G q C _ x1 x2 x3 (1, eC) hc) (cwV 3 hts gL_any_X6_any rfl rfl rfl (by decide +kernel) ⟨Nat.le_of_ble_eq_true rfl, Nat.le_of_ble_eq_true rfl⟩) (xV (fr_mid [] [] hP) (fr_midD [] [] hD) hS hK hA hE 5 0 rfl rfl) rfl rfl hl.1 rfl (lv_room (Nat.le_of_ble_eq_true rfl)) dL_any_4 ⟨Nat.le_of_ble_eq_true rfl, Nat.le_of_ble_eq_true rfl⟩) hP hD hS hA (fun _ => rfl) (fun ce q9 H locs hP hD hS hce hcv hcl => ?_)
      refine vx_catch hown [] (⟨0, 7, 8, 15⟩ : ExceptionTableEntry) [(⟨0, 7, 13, 18⟩ : ExceptionTableEntry), (⟨0, 7, 18, 21⟩ : ExceptionTableEntry), (⟨0, 7, 23, 28⟩ : ExceptionTableEntry)] (htab.trans rfl) (fun _ hz => absurd hz List.not_mem_nil) (by decide) (by decide) (w_mem hts 1 rfl) (hK.2.at 43 rfl) hce hcv hcl ?_
      refine lv_astore (lv' := [(4, .ref q9), (0, .ref (q 0)), (1, .int x1), (2, .int x2), (3, .int x3)]) hx hb dL_any_8 hl (by decide) rfl (fun ls hl => ?_)
      refine lv_ldc (own := RL) (v := -900001) hx hb hown (w_mem hts 5 rfl) dL_any_10 ?_
      exact W.iret (v := -900001) hx hb hr (fun t ht _ => ⟨⟨-900001, eC, rfl, Option.some.inj h, by show va_P G.1 vwCl (CW G q eC) t.heap; rw [ht]; exact hP⟩, hS.F ht⟩) hS.2.2 dL_any_12 hlocks
    by_cases h1 : ek = 2
    · subst h1
      have h : some ((-900002 : Int32), eC) = some out := h
      refine lv_aload_n hx hb dL_any_0 rfl (lv_at hl 0 rfl) ?_
      refine lv_iload_n hx hb dL_any_1 rfl (lv_at hl 1 rfl) ?_
      refine lv_iload_n hx hb dL_any_2 rfl (lv_at hl 2 rfl) ?_
      refine lv_iload_n hx hb dL_any_3 rfl (lv_at hl 3 rfl) ?_
      refine x_call (Wd := CW G q) (e' := (2, eC)) [] [] (vx_runV (As := [.int x1, .int x2, .int x3]) (rest := []) ⟨hx, hb, hml, hown, hts⟩ (xX6_any l hl0 G q C _ x1 x2 x3 (2, eC) hc) (cwV 3 hts gL_any_X6_any rfl rfl rfl (by decide +kernel) ⟨Nat.le_of_ble_eq_true rfl, Nat.le_of_ble_eq_true rfl⟩) (xV (fr_mid [] [] hP) (fr_midD [] [] hD) hS hK hA hE 5 0 rfl rfl) rfl rfl hl.1 rfl (lv_room (Nat.le_of_ble_eq_true rfl)) dL_any_4 ⟨Nat.le_of_ble_eq_true rfl, Nat.le_of_ble_eq_true rfl⟩) hP hD hS hA (fun _ => rfl) (fun ce q9 H locs hP hD hS hce hcv hcl => ?_)
      refine vx_catch hown [(⟨0, 7, 8, 15⟩ : ExceptionTableEntry)] (⟨0, 7, 13, 18⟩ : ExceptionTableEntry) [(⟨0, 7, 18, 21⟩ : ExceptionTableEntry), (⟨0, 7, 23, 28⟩ : ExceptionTableEntry)] (htab.trans rfl) (List.forall_mem_cons.mpr ⟨Or.inr ⟨by decide, "java/lang/IndexOutOfBoundsException", (w_mem hts 1 rfl), hE.2.2.2 2 1 ⟨by decide, by decide⟩ ⟨by decide, by decide⟩ (by decide)⟩, fun _ hz => absurd hz List.not_mem_nil⟩) (by decide) (by decide) (w_mem hts 2 rfl) (hK.2.at 44 rfl) hce hcv hcl ?_
      refine lv_astore (lv' := [(4, .ref q9), (0, .ref (q 0)), (1, .int x1), (2, .int x2), (3, .int x3)]) hx hb dL_any_13 hl (by decide) rfl (fun ls hl => ?_)
      refine lv_ldc (own := RL) (v := -900002) hx hb hown (w_mem hts 6 rfl) dL_any_15 ?_
      exact W.iret (v := -900002) hx hb hr (fun t ht _ => ⟨⟨-900002, eC, rfl, Option.some.inj h, by show va_P G.1 vwCl (CW G q eC) t.heap; rw [ht]; exact hP⟩, hS.F ht⟩) hS.2.2 dL_any_17 hlocks
    by_cases h2 : ek = 3
    · subst h2
      have h : some ((-900003 : Int32), eC) = some out := h
      refine lv_aload_n hx hb dL_any_0 rfl (lv_at hl 0 rfl) ?_
      refine lv_iload_n hx hb dL_any_1 rfl (lv_at hl 1 rfl) ?_
      refine lv_iload_n hx hb dL_any_2 rfl (lv_at hl 2 rfl) ?_
      refine lv_iload_n hx hb dL_any_3 rfl (lv_at hl 3 rfl) ?_
      refine x_call (Wd := CW G q) (e' := (3, eC)) [] [] (vx_runV (As := [.int x1, .int x2, .int x3]) (rest := []) ⟨hx, hb, hml, hown, hts⟩ (xX6_any l hl0 G q C _ x1 x2 x3 (3, eC) hc) (cwV 3 hts gL_any_X6_any rfl rfl rfl (by decide +kernel) ⟨Nat.le_of_ble_eq_true rfl, Nat.le_of_ble_eq_true rfl⟩) (xV (fr_mid [] [] hP) (fr_midD [] [] hD) hS hK hA hE 5 0 rfl rfl) rfl rfl hl.1 rfl (lv_room (Nat.le_of_ble_eq_true rfl)) dL_any_4 ⟨Nat.le_of_ble_eq_true rfl, Nat.le_of_ble_eq_true rfl⟩) hP hD hS hA (fun _ => rfl) (fun ce q9 H locs hP hD hS hce hcv hcl => ?_)
      refine vx_catch hown [(⟨0, 7, 8, 15⟩ : ExceptionTableEntry), (⟨0, 7, 13, 18⟩ : ExceptionTableEntry)] (⟨0, 7, 18, 21⟩ : ExceptionTableEntry) [(⟨0, 7, 23, 28⟩ : ExceptionTableEntry)] (htab.trans rfl) (List.forall_mem_cons.mpr ⟨Or.inr ⟨by decide, "java/lang/IndexOutOfBoundsException", (w_mem hts 1 rfl), hE.2.2.2 3 1 ⟨by decide, by decide⟩ ⟨by decide, by decide⟩ (by decide)⟩, List.forall_mem_cons.mpr ⟨Or.inr ⟨by decide, "java/lang/IllegalArgumentException", (w_mem hts 2 rfl), hE.2.2.2 3 2 ⟨by decide, by decide⟩ ⟨by decide, by decide⟩ (by decide)⟩, fun _ hz => absurd hz List.not_mem_nil⟩⟩) (by decide) (by decide) (w_mem hts 3 rfl) (hK.2.at 45 rfl) hce hcv hcl ?_
      refine lv_astore (lv' := [(4, .ref q9), (0, .ref (q 0)), (1, .int x1), (2, .int x2), (3, .int x3)]) hx hb dL_any_18 hl (by decide) rfl (fun ls hl => ?_)
      refine lv_ldc (own := RL) (v := -900003) hx hb hown (w_mem hts 7 rfl) dL_any_20 ?_
      exact W.iret (v := -900003) hx hb hr (fun t ht _ => ⟨⟨-900003, eC, rfl, Option.some.inj h, by show va_P G.1 vwCl (CW G q eC) t.heap; rw [ht]; exact hP⟩, hS.F ht⟩) hS.2.2 dL_any_22 hlocks
    by_cases h3 : ek = 4
    · subst h3
      have h : some ((-900004 : Int32), eC) = some out := h
      refine lv_aload_n hx hb dL_any_0 rfl (lv_at hl 0 rfl) ?_
      refine lv_iload_n hx hb dL_any_1 rfl (lv_at hl 1 rfl) ?_
      refine lv_iload_n hx hb dL_any_2 rfl (lv_at hl 2 rfl) ?_
      refine lv_iload_n hx hb dL_any_3 rfl (lv_at hl 3 rfl) ?_
      refine x_call (Wd := CW G q) (e' := (4, eC)) [] [] (vx_runV (As := [.int x1, .int x2, .int x3]) (rest := []) ⟨hx, hb, hml, hown, hts⟩ (xX6_any l hl0 G q C _ x1 x2 x3 (4, eC) hc) (cwV 3 hts gL_any_X6_any rfl rfl rfl (by decide +kernel) ⟨Nat.le_of_ble_eq_true rfl, Nat.le_of_ble_eq_true rfl⟩) (xV (fr_mid [] [] hP) (fr_midD [] [] hD) hS hK hA hE 5 0 rfl rfl) rfl rfl hl.1 rfl (lv_room (Nat.le_of_ble_eq_true rfl)) dL_any_4 ⟨Nat.le_of_ble_eq_true rfl, Nat.le_of_ble_eq_true rfl⟩) hP hD hS hA (fun _ => rfl) (fun ce q9 H locs hP hD hS hce hcv hcl => ?_)
      refine vx_catch hown [(⟨0, 7, 8, 15⟩ : ExceptionTableEntry), (⟨0, 7, 13, 18⟩ : ExceptionTableEntry), (⟨0, 7, 18, 21⟩ : ExceptionTableEntry)] (⟨0, 7, 23, 28⟩ : ExceptionTableEntry) [] (htab.trans rfl) (List.forall_mem_cons.mpr ⟨Or.inr ⟨by decide, "java/lang/IndexOutOfBoundsException", (w_mem hts 1 rfl), hE.2.2.2 4 1 ⟨by decide, by decide⟩ ⟨by decide, by decide⟩ (by decide)⟩, List.forall_mem_cons.mpr ⟨Or.inr ⟨by decide, "java/lang/IllegalArgumentException", (w_mem hts 2 rfl), hE.2.2.2 4 2 ⟨by decide, by decide⟩ ⟨by decide, by decide⟩ (by decide)⟩, List.forall_mem_cons.mpr ⟨Or.inr ⟨by decide, "java/lang/IllegalStateException", (w_mem hts 3 rfl), hE.2.2.2 4 3 ⟨by decide, by decide⟩ ⟨by decide, by decide⟩ (by decide)⟩, fun _ hz => absurd hz List.not_mem_nil⟩⟩⟩) (by decide) (by decide) (w_mem hts 4 rfl) (hK.2.at 46 rfl) hce hcv hcl ?_
      refine lv_astore (lv' := [(4, .ref q9), (0, .ref (q 0)), (1, .int x1), (2, .int x2), (3, .int x3)]) hx hb dL_any_23 hl (by decide) rfl (fun ls hl => ?_)
      refine lv_ldc (own := RL) (v := -900004) hx hb hown (w_mem hts 8 rfl) dL_any_25 ?_
      exact W.iret (v := -900004) hx hb hr (fun t ht _ => ⟨⟨-900004, eC, rfl, Option.some.inj h, by show va_P G.1 vwCl (CW G q eC) t.heap; rw [ht]; exact hP⟩, hS.F ht⟩) hS.2.2 dL_any_27 hlocks
    · exact absurd h (by simp [wresW, cdL_any, h0, h1, h2, h3])
  · unfold pL_any at h; rw [hc] at h
    refine lv_aload_n hx hb dL_any_0 rfl (lv_at hl 0 rfl) ?_
    refine lv_iload_n hx hb dL_any_1 rfl (lv_at hl 1 rfl) ?_
    refine lv_iload_n hx hb dL_any_2 rfl (lv_at hl 2 rfl) ?_
    refine lv_iload_n hx hb dL_any_3 rfl (lv_at hl 3 rfl) ?_
    refine wf_i (Wd := CW G q) [] [] (va_runV (As := [.int x1, .int x2, .int x3]) (rest := []) ⟨hx, hb, hml, hown, hts⟩ (kX6_any l G q C _ x1 x2 x3 r hc) (cwV 3 hts gL_any_X6_any rfl rfl rfl (by decide +kernel) ⟨Nat.le_of_ble_eq_true rfl, Nat.le_of_ble_eq_true rfl⟩) (wrV (fr_mid [] [] hP) (fr_midD [] [] hD) hK 5 0 rfl rfl) rfl rfl hl.1 rfl (lv_room (Nat.le_of_ble_eq_true rfl)) dL_any_4 ⟨Nat.zero_le _, Nat.zero_le _⟩) hP hD hS hA (fun _ => rfl) (fun H locs hP hD hS => ?_)
    refine W.widen (k := 1) (n := 6) (Nat.le_of_ble_eq_true rfl) (Nat.le_of_ble_eq_true rfl) ?_
    exact W.iret (v := r.1) hx hb hr (fun t ht _ => ⟨⟨r.1, r.2, rfl, Option.some.inj h, by show va_P G.1 vwCl (CW G q r.2) t.heap; rw [ht]; exact hP⟩, hS.F ht⟩) hS.2.2 dL_any_7 hlocks
