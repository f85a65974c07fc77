def rmL_lift : Room := { frames := 7, cells := 1, slots := 6, locals := 121 }
set_option maxHeartbeats 4000000 in
set_option maxRecDepth 100000 in
theorem kL_lift (l : Launch) (hl0 : l.stackTraces = false) (G : GT) (q : Nat → Nat) (C : St) (sz : Nat) (x1 : Int32) (out : Int32 × St) (h : pL_lift C x1 = some out) : Met l yL_lift wsL_lift rmL_lift (va_Pc [.ref (q 0), .int x1] (xP G (CW G q C) sz)) (va_Qi (fun v u => (v, u) = out) (fun u t => va_P G.1 vwCl (CW G q u) t.heap) (va_A (CW G q C) sz)) 1 6 (va_A (CW G q C) sz) := by
  refine va_MetW (cc := cL_lift) (maxL := 3) (ret := (some .int)) (by decide) rfl ?_
  intro p e s m args below meth c s₁ B hml hv
  obtain ⟨rfl, ⟨hsz, hP, hK, hD0⟩, hE⟩ := hv
  have htab := vx_table (x := yL_lift) B (atoms_spec (ws := wsL_lift) B.pre _ List.mem_cons_self)
  have bx := bx_of B hml
  subst hsz
  have hD := hD0.self (sz := s.heap.size)
  generalize hAe : va_A (CW G q C) s.heap.size = A at hD hE ⊢
  have hA : ∀ q : Nat, s.heap.size ≤ q → A q := fun q h => by rw [← hAe]; exact Or.inr h
  have hS : va_S A s.heap s.heap [] := va_S.rf
  have hP : va_P G.1 vwCl ([] ++ (CW G q C ++ [])) s.heap := hP
  have hD : va_D A ([] ++ (CW G q C ++ [])) := hD
  obtain ⟨hx, hb, hr, hts, hown, hml, hlocks⟩ := id bx
  have hl := lv_entry ([.ref (q 0), .int x1]) (n := 3) (Nat.le_of_ble_eq_true rfl)
  rw [lg_entry_eq]
  generalize (lg_sl ([.ref (q 0), .int x1]) ++ List.replicate (3 - (lg_sl ([.ref (q 0), .int x1])).length) Slot.unset).toArray = ls at hl ⊢
  have hl : lv_has ls 3 [(0, .ref (q 0)), (1, .int x1)] := hl
  rcases hc : pX6_lift C x1 with _ | (⟨ek, eC⟩ | r)
  · unfold pL_lift at h; rw [hc] at h; cases h
  · unfold pL_lift at h; rw [hc] at h
    by_cases h0 : ek = 5
    · subst h0
      have h : some ((-900001 : Int32), eC) = some out := h
      refine lv_aload_n hx hb dL_lift_0 rfl (lv_at hl 0 rfl) ?_
      refine lv_iload_n hx hb dL_lift_1 rfl (lv_at hl 1 rfl) ?_
      refine x_call (Wd := CW G q) (e' := (5, eC)) [] [] (vx_runV (As := [.int x1]) (rest := []) ⟨hx, hb, hml, hown, hts⟩ (xX6_lift l hl0 G q C _ x1 (5, eC) hc) (cwV 1 hts gL_lift_X6_lift rfl rfl rfl (by decide +kernel) ⟨Nat.le_of_ble_eq_true rfl, Nat.le_of_ble_eq_true rfl⟩) (xV (fr_mid [] [] hP) (fr_midD [] [] hD) hS hK hA hE 5 0 rfl rfl) rfl rfl hl.1 rfl (lv_room (Nat.le_of_ble_eq_true rfl)) dL_lift_2 ⟨Nat.le_of_ble_eq_true rfl, Nat.le_of_ble_eq_true rfl⟩) hP hD hS hA (fun _ => rfl) (fun ce q9 H locs hP hD hS hce hcv hcl => ?_)
      refine vx_catch hown [] (⟨0, 5, 6, 44⟩ : ExceptionTableEntry) [(⟨0, 5, 10, 21⟩ : ExceptionTableEntry)] (htab.trans rfl) (fun _ hz => absurd hz List.not_mem_nil) (by decide) (by decide) (w_mem hts 1 rfl) (hK.2.at 47 rfl) hce hcv hcl ?_
      refine lv_astore_n (lv' := [(2, .ref q9), (0, .ref (q 0)), (1, .int x1)]) hx hb dL_lift_6 rfl hl (by decide) rfl (fun ls hl => ?_)
      refine lv_ldc (own := RL) (v := -900001) hx hb hown (w_mem hts 3 rfl) dL_lift_7 ?_
      exact W.iret (v := -900001) hx hb hr (fun t ht _ => ⟨⟨-900001, eC, rfl, Option.some.inj h, by show va_P G.1 vwCl (CW G q eC) t.heap; rw [ht]; exact hP⟩, hS.F ht⟩) hS.2.2 dL_lift_9 hlocks
    by_cases h1 : ek = 3
    · subst h1
      have h : some ((-900002 : Int32), eC) = some out := h
      refine lv_aload_n hx hb dL_lift_0 rfl (lv_at hl 0 rfl) ?_
      refine lv_iload_n hx hb dL_lift_1 rfl (lv_at hl 1 rfl) ?_
      refine x_call (Wd := CW G q) (e' := (3, eC)) [] [] (vx_runV (As := [.int x1]) (rest := []) ⟨hx, hb, hml, hown, hts⟩ (xX6_lift l hl0 G q C _ x1 (3, eC) hc) (cwV 1 hts gL_lift_X6_lift rfl rfl rfl (by decide +kernel) ⟨Nat.le_of_ble_eq_true rfl, Nat.le_of_ble_eq_true rfl⟩) (xV (fr_mid [] [] hP) (fr_midD [] [] hD) hS hK hA hE 5 0 rfl rfl) rfl rfl hl.1 rfl (lv_room (Nat.le_of_ble_eq_true rfl)) dL_lift_2 ⟨Nat.le_of_ble_eq_true rfl, Nat.le_of_ble_eq_true rfl⟩) hP hD hS hA (fun _ => rfl) (fun ce q9 H locs hP hD hS hce hcv hcl => ?_)
      refine vx_catch hown [(⟨0, 5, 6, 44⟩ : ExceptionTableEntry)] (⟨0, 5, 10, 21⟩ : ExceptionTableEntry) [] (htab.trans rfl) (List.forall_mem_cons.mpr ⟨Or.inr ⟨by decide, "java/util/NoSuchElementException", (w_mem hts 1 rfl), hE.2.2.2 3 5 ⟨by decide, by decide⟩ ⟨by decide, by decide⟩ (by decide)⟩, fun _ hz => absurd hz List.not_mem_nil⟩) (by decide) (by decide) (w_mem hts 2 rfl) (hK.2.at 45 rfl) hce hcv hcl ?_
      refine lv_astore_n (lv' := [(2, .ref q9), (0, .ref (q 0)), (1, .int x1)]) hx hb dL_lift_10 rfl hl (by decide) rfl (fun ls hl => ?_)
      refine lv_ldc (own := RL) (v := -900002) hx hb hown (w_mem hts 4 rfl) dL_lift_11 ?_
      exact W.iret (v := -900002) hx hb hr (fun t ht _ => ⟨⟨-900002, eC, rfl, Option.some.inj h, by show va_P G.1 vwCl (CW G q eC) t.heap; rw [ht]; exact hP⟩, hS.F ht⟩) hS.2.2 dL_lift_13 hlocks
    · exact absurd h (by simp [wresW, cdL_lift, h0, h1])
  · unfold pL_lift at h; rw [hc] at h
    refine lv_aload_n hx hb dL_lift_0 rfl (lv_at hl 0 rfl) ?_
    refine lv_iload_n hx hb dL_lift_1 rfl (lv_at hl 1 rfl) ?_
    refine wf_i (Wd := CW G q) [] [] (va_runV (As := [.int x1]) (rest := []) ⟨hx, hb, hml, hown, hts⟩ (kX6_lift l G q C _ x1 r hc) (cwV 1 hts gL_lift_X6_lift rfl rfl rfl (by decide +kernel) ⟨Nat.le_of_ble_eq_true rfl, Nat.le_of_ble_eq_true rfl⟩) (wrV (fr_mid [] [] hP) (fr_midD [] [] hD) hK 5 0 rfl rfl) rfl rfl hl.1 rfl (lv_room (Nat.le_of_ble_eq_true rfl)) dL_lift_2 ⟨Nat.zero_le _, Nat.zero_le _⟩) hP hD hS hA (fun _ => rfl) (fun H locs hP hD hS => ?_)
    refine W.widen (k := 1) (n := 6) (Nat.le_of_ble_eq_true rfl) (Nat.le_of_ble_eq_true rfl) ?_
    exact W.iret (v := r.1) hx hb hr (fun t ht _ => ⟨⟨r.1, r.2, rfl, Option.some.inj h, by show va_P G.1 vwCl (CW G q r.2) t.heap; rw [ht]; exact hP⟩, hS.F ht⟩) hS.2.2 dL_lift_5 hlocks

def rmL_choose : Room := { frames := 18, cells := 1, slots := 6, locals := 456 }
set_option maxHeartbeats 4000000 in
set_option maxRecDepth 100000 in
theorem kL_choose (l : Launch) (hl0 : l.stackTraces = false) (G : GT) (q : Nat → Nat) (C : St) (sz : Nat) (x1 : Int32) (out : Int32 × St) (h : pL_choose C x1 = some out) : Met l yL_choose wsL_choose rmL_choose (va_Pc [.ref (q 0), .int x1] (xP G (CW G q C) sz)) (va_Qi (fun v u => (v, u) = out) (fun u t => va_P G.1 vwCl (CW G q u) t.heap) (va_A (CW G q C) sz)) 1 6 (va_A (CW G q C) sz) := by
  refine va_MetW (cc := cL_choose) (maxL := 3) (ret := (some .int)) (by decide) rfl ?_
  intro p e s m args below meth c s₁ B hml hv
  obtain ⟨rfl, ⟨hsz, hP, hK, hD0⟩, hE⟩ := hv
  have htab := vx_table (x := yL_choose) B (atoms_spec (ws := wsL_choose) B.pre _ List.mem_cons_self)
  have bx := bx_of B hml
  subst hsz
  have hD := hD0.self (sz := s.heap.size)
  generalize hAe : va_A (CW G q C) s.heap.size = A at hD hE ⊢
  have hA : ∀ q : Nat, s.heap.size ≤ q → A q := fun q h => by rw [← hAe]; exact Or.inr h
  have hS : va_S A s.heap s.heap [] := va_S.rf
  have hP : va_P G.1 vwCl ([] ++ (CW G q C ++ [])) s.heap := hP
  have hD : va_D A ([] ++ (CW G q C ++ [])) := hD
  obtain ⟨hx, hb, hr, hts, hown, hml, hlocks⟩ := id bx
  have hl := lv_entry ([.ref (q 0), .int x1]) (n := 3) (Nat.le_of_ble_eq_true rfl)
  rw [lg_entry_eq]
  generalize (lg_sl ([.ref (q 0), .int x1]) ++ List.replicate (3 - (lg_sl ([.ref (q 0), .int x1])).length) Slot.unset).toArray = ls at hl ⊢
  have hl : lv_has ls 3 [(0, .ref (q 0)), (1, .int x1)] := hl
  rcases hc : pX6_choose C x1 with _ | (⟨ek, eC⟩ | r)
  · unfold pL_choose at h; rw [hc] at h; cases h
  · unfold pL_choose at h; rw [hc] at h
    by_cases h0 : ek = 1
    · subst h0
      have h : some ((-900001 : Int32), eC) = some out := h
      refine lv_aload_n hx hb dL_choose_0 rfl (lv_at hl 0 rfl) ?_
      refine lv_iload_n hx hb dL_choose_1 rfl (lv_at hl 1 rfl) ?_
      refine x_call (Wd := CW G q) (e' := (1, eC)) [] [] (vx_runV (As := [.int x1]) (rest := []) ⟨hx, hb, hml, hown, hts⟩ (xX6_choose l hl0 G q C _ x1 (1, eC) hc) (cwV 1 hts gL_choose_X6_choose rfl rfl rfl (by decide +kernel) ⟨Nat.le_of_ble_eq_true rfl, Nat.le_of_ble_eq_true rfl⟩) (xV (fr_mid [] [] hP) (fr_midD [] [] hD) hS hK hA hE 5 0 rfl rfl) rfl rfl hl.1 rfl (lv_room (Nat.le_of_ble_eq_true rfl)) dL_choose_2 ⟨Nat.le_of_ble_eq_true rfl, Nat.le_of_ble_eq_true rfl⟩) hP hD hS hA (fun _ => rfl) (fun ce q9 H locs hP hD hS hce hcv hcl => ?_)
      refine vx_catch hown [] (⟨0, 5, 6, 15⟩ : ExceptionTableEntry) [(⟨0, 5, 10, 18⟩ : ExceptionTableEntry), (⟨0, 5, 14, 21⟩ : ExceptionTableEntry), (⟨0, 5, 18, 28⟩ : ExceptionTableEntry)] (htab.trans rfl) (fun _ hz => absurd hz List.not_mem_nil) (by decide) (by decide) (w_mem hts 1 rfl) (hK.2.at 43 rfl) hce hcv hcl ?_
      refine lv_astore_n (lv' := [(2, .ref q9), (0, .ref (q 0)), (1, .int x1)]) hx hb dL_choose_6 rfl hl (by decide) rfl (fun ls hl => ?_)
      refine lv_ldc (own := RL) (v := -900001) hx hb hown (w_mem hts 5 rfl) dL_choose_7 ?_
      exact W.iret (v := -900001) hx hb hr (fun t ht _ => ⟨⟨-900001, eC, rfl, Option.some.inj h, by show va_P G.1 vwCl (CW G q eC) t.heap; rw [ht]; exact hP⟩, hS.F ht⟩) hS.2.2 dL_choose_9 hlocks
    by_cases h1 : ek = 2
    · subst h1
      have h : some ((-900002 : Int32), eC) = some out := h
      refine lv_aload_n hx hb dL_choose_0 rfl (lv_at hl 0 rfl) ?_
      refine lv_iload_n hx hb dL_choose_1 rfl (lv_at hl 1 rfl) ?_
      refine x_call (Wd := CW G q) (e' := (2, eC)) [] [] (vx_runV (As := [.int x1]) (rest := []) ⟨hx, hb, hml, hown, hts⟩ (xX6_choose l hl0 G q C _ x1 (2, eC) hc) (cwV 1 hts gL_choose_X6_choose rfl rfl rfl (by decide +kernel) ⟨Nat.le_of_ble_eq_true rfl, Nat.le_of_ble_eq_true rfl⟩) (xV (fr_mid [] [] hP) (fr_midD [] [] hD) hS hK hA hE 5 0 rfl rfl) rfl rfl hl.1 rfl (lv_room (Nat.le_of_ble_eq_true rfl)) dL_choose_2 ⟨Nat.le_of_ble_eq_true rfl, Nat.le_of_ble_eq_true rfl⟩) hP hD hS hA (fun _ => rfl) (fun ce q9 H locs hP hD hS hce hcv hcl => ?_)
      refine vx_catch hown [(⟨0, 5, 6, 15⟩ : ExceptionTableEntry)] (⟨0, 5, 10, 18⟩ : ExceptionTableEntry) [(⟨0, 5, 14, 21⟩ : ExceptionTableEntry), (⟨0, 5, 18, 28⟩ : ExceptionTableEntry)] (htab.trans rfl) (List.forall_mem_cons.mpr ⟨Or.inr ⟨by decide, "java/lang/IndexOutOfBoundsException", (w_mem hts 1 rfl), hE.2.2.2 2 1 ⟨by decide, by decide⟩ ⟨by decide, by decide⟩ (by decide)⟩, fun _ hz => absurd hz List.not_mem_nil⟩) (by decide) (by decide) (w_mem hts 2 rfl) (hK.2.at 44 rfl) hce hcv hcl ?_
      refine lv_astore_n (lv' := [(2, .ref q9), (0, .ref (q 0)), (1, .int x1)]) hx hb dL_choose_10 rfl hl (by decide) rfl (fun ls hl => ?_)
      refine lv_ldc (own := RL) (v := -900002) hx hb hown (w_mem hts 6 rfl) dL_choose_11 ?_
      exact W.iret (v := -900002) hx hb hr (fun t ht _ => ⟨⟨-900002, eC, rfl, Option.some.inj h, by show va_P G.1 vwCl (CW G q eC) t.heap; rw [ht]; exact hP⟩, hS.F ht⟩) hS.2.2 dL_choose_13 hlocks
    by_cases h2 : ek = 3
    · subst h2
      have h : some ((-900003 : Int32), eC) = some out := h
      refine lv_aload_n hx hb dL_choose_0 rfl (lv_at hl 0 rfl) ?_
      refine lv_iload_n hx hb dL_choose_1 rfl (lv_at hl 1 rfl) ?_
      refine x_call (Wd := CW G q) (e' := (3, eC)) [] [] (vx_runV (As := [.int x1]) (rest := []) ⟨hx, hb, hml, hown, hts⟩ (xX6_choose l hl0 G q C _ x1 (3, eC) hc) (cwV 1 hts gL_choose_X6_choose rfl rfl rfl (by decide +kernel) ⟨Nat.le_of_ble_eq_true rfl, Nat.le_of_ble_eq_true rfl⟩) (xV (fr_mid [] [] hP) (fr_midD [] [] hD) hS hK hA hE 5 0 rfl rfl) rfl rfl hl.1 rfl (lv_room (Nat.le_of_ble_eq_true rfl)) dL_choose_2 ⟨Nat.le_of_ble_eq_true rfl, Nat.le_of_ble_eq_true rfl⟩) hP hD hS hA (fun _ => rfl) (fun ce q9 H locs hP hD hS hce hcv hcl => ?_)
      refine vx_catch hown [(⟨0, 5, 6, 15⟩ : ExceptionTableEntry), (⟨0, 5, 10, 18⟩ : ExceptionTableEntry)] (⟨0, 5, 14, 21⟩ : ExceptionTableEntry) [(⟨0, 5, 18, 28⟩ : ExceptionTableEntry)] (htab.trans rfl) (List.forall_mem_cons.mpr ⟨Or.inr ⟨by decide, "java/lang/IndexOutOfBoundsException", (w_mem hts 1 rfl), hE.2.2.2 3 1 ⟨by decide, by decide⟩ ⟨by decide, by decide⟩ (by decide)⟩, List.forall_mem_cons.mpr ⟨Or.inr ⟨by decide, "java/lang/IllegalArgumentException", (w_mem hts 2 rfl), hE.2.2.2 3 2 ⟨by decide, by decide⟩ ⟨by decide, by decide⟩ (by decide)⟩, fun _ hz => absurd hz List.not_mem_nil⟩⟩) (by decide) (by decide) (w_mem hts 3 rfl) (hK.2.at 45 rfl) hce hcv hcl ?_
      refine lv_astore_n (lv' := [(2, .ref q9), (0, .ref (q 0)), (1, .int x1)]) hx hb dL_choose_14 rfl hl (by decide) rfl (fun ls hl => ?_)
      refine lv_ldc (own := RL) (v := -900003) hx hb hown (w_mem hts 7 rfl) dL_choose_15 ?_
      exact W.iret (v := -900003) hx hb hr (fun t ht _ => ⟨⟨-900003, eC, rfl, Option.some.inj h, by show va_P G.1 vwCl (CW G q eC) t.heap; rw [ht]; exact hP⟩, hS.F ht⟩) hS.2.2 dL_choose_17 hlocks
    by_cases h3 : ek = 4
    · subst h3
      have h : some ((-900004 : Int32), eC) = some out := h
      refine lv_aload_n hx hb dL_choose_0 rfl (lv_at hl 0 rfl) ?_
      refine lv_iload_n hx hb dL_choose_1 rfl (lv_at hl 1 rfl) ?_
      refine x_call (Wd := CW G q) (e' := (4, eC)) [] [] (vx_runV (As := [.int x1]) (rest := []) ⟨hx, hb, hml, hown, hts⟩ (xX6_choose l hl0 G q C _ x1 (4, eC) hc) (cwV 1 hts gL_choose_X6_choose rfl rfl rfl (by decide +kernel) ⟨Nat.le_of_ble_eq_true rfl, Nat.le_of_ble_eq_true rfl⟩) (xV (fr_mid [] [] hP) (fr_midD [] [] hD) hS hK hA hE 5 0 rfl rfl) rfl rfl hl.1 rfl (lv_room (Nat.le_of_ble_eq_true rfl)) dL_choose_2 ⟨Nat.le_of_ble_eq_true rfl, Nat.le_of_ble_eq_true rfl⟩) hP hD hS hA (fun _ => rfl) (fun ce q9 H locs hP hD hS hce hcv hcl => ?_)
      refine vx_catch hown [(⟨0, 5, 6, 15⟩ : ExceptionTableEntry), (⟨0, 5, 10, 18⟩ : ExceptionTableEntry), (⟨0, 5, 14, 21⟩ : ExceptionTableEntry)] (⟨0, 5, 18, 28⟩ : ExceptionTableEntry) [] (htab.trans rfl) (List.forall_mem_cons.mpr ⟨Or.inr ⟨by decide, "java/lang/IndexOutOfBoundsException", (w_mem hts 1 rfl), hE.2.2.2 4 1 ⟨by decide, by decide⟩ ⟨by decide, by decide⟩ (by decide)⟩, List.forall_mem_cons.mpr ⟨Or.inr ⟨by decide, "java/lang/IllegalArgumentException", (w_mem hts 2 rfl), hE.2.2.2 4 2 ⟨by decide, by decide⟩ ⟨by decide, by decide⟩ (by decide)⟩, List.forall_mem_cons.mpr ⟨Or.inr ⟨by decide, "java/lang/IllegalStateException", (w_mem hts 3 rfl), hE.2.2.2 4 3 ⟨by decide, by decide⟩ ⟨by decide, by decide⟩ (by decide)⟩, fun _ hz => absurd hz List.not_mem_nil⟩⟩⟩) (by decide) (by decide) (w_mem hts 4 rfl) (hK.2.at 46 rfl) hce hcv hcl ?_
      refine lv_astore_n (lv' := [(2, .ref q9), (0, .ref (q 0)), (1, .int x1)]) hx hb dL_choose_18 rfl hl (by decide) rfl (fun ls hl => ?_)
      refine lv_ldc (own := RL) (v := -900004) hx hb hown (w_mem hts 8 rfl) dL_choose_19 ?_
      exact W.iret (v := -900004) hx hb hr (fun t ht _ => ⟨⟨-900004, eC, rfl, Option.some.inj h, by show va_P G.1 vwCl (CW G q eC) t.heap; rw [ht]; exact hP⟩, hS.F ht⟩) hS.2.2 dL_choose_21 hlocks
    · exact absurd h (by simp [wresW, cdL_choose, h0, h1, h2, h3])
  · unfold pL_choose at h; rw [hc] at h
    refine lv_aload_n hx hb dL_choose_0 rfl (lv_at hl 0 rfl) ?_
    refine lv_iload_n hx hb dL_choose_1 rfl (lv_at hl 1 rfl) ?_
    refine wf_i (Wd := CW G q) [] [] (va_runV (As := [.int x1]) (rest := []) ⟨hx, hb, hml, hown, hts⟩ (kX6_choose l G q C _ x1 r hc) (cwV 1 hts gL_choose_X6_choose rfl rfl rfl (by decide +kernel) ⟨Nat.le_of_ble_eq_true rfl, Nat.le_of_ble_eq_true rfl⟩) (wrV (fr_mid [] [] hP) (fr_midD [] [] hD) hK 5 0 rfl rfl) rfl rfl hl.1 rfl (lv_room (Nat.le_of_ble_eq_true rfl)) dL_choose_2 ⟨Nat.zero_le _, Nat.zero_le _⟩) hP hD hS hA (fun _ => rfl) (fun H locs hP hD hS => ?_)
    refine W.widen (k := 1) (n := 6) (Nat.le_of_ble_eq_true rfl) (Nat.le_of_ble_eq_true rfl) ?_
    exact W.iret (v := r.1) hx hb hr (fun t ht _ => ⟨⟨r.1, r.2, rfl, Option.some.inj h, by show va_P G.1 vwCl (CW G q r.2) t.heap; rw [ht]; exact hP⟩, hS.F ht⟩) hS.2.2 dL_choose_5 hlocks

def rmL_refuse : Room := { frames := 18, cells := 1, slots := 6, locals := 456 }
set_option maxHeartbeats 4000000 in
set_option maxRecDepth 100000 in
theorem kL_refuse (l : Launch) (hl0 : l.stackTraces = false) (G : GT) (q : Nat → Nat) (C : St) (sz : Nat) (x1 : Int32) (out : Int32 × St) (h : pL_refuse C x1 = some out) : Met l yL_refuse wsL_refuse rmL_refuse (va_Pc [.ref (q 0), .int x1] (xP G (CW G q C) sz)) (va_Qi (fun v u => (v, u) = out) (fun u t => va_P G.1 vwCl (CW G q u) t.heap) (va_A (CW G q C) sz)) 1 6 (va_A (CW G q C) sz) := by
  refine va_MetW (cc := cL_refuse) (maxL := 3) (ret := (some .int)) (by decide) rfl ?_
  intro p e s m args below meth c s₁ B hml hv
  obtain ⟨rfl, ⟨hsz, hP, hK, hD0⟩, hE⟩ := hv
  have htab := vx_table (x := yL_refuse) B (atoms_spec (ws := wsL_refuse) B.pre _ List.mem_cons_self)
  have bx := bx_of B hml
  subst hsz
  have hD := hD0.self (sz := s.heap.size)
  generalize hAe : va_A (CW G q C) s.heap.size = A at hD hE ⊢
  have hA : ∀ q : Nat, s.heap.size ≤ q → A q := fun q h => by rw [← hAe]; exact Or.inr h
  have hS : va_S A s.heap s.heap [] := va_S.rf
  have hP : va_P G.1 vwCl ([] ++ (CW G q C ++ [])) s.heap := hP
  have hD : va_D A ([] ++ (CW G q C ++ [])) := hD
  obtain ⟨hx, hb, hr, hts, hown, hml, hlocks⟩ := id bx
  have hl := lv_entry ([.ref (q 0), .int x1]) (n := 3) (Nat.le_of_ble_eq_true rfl)
  rw [lg_entry_eq]
  generalize (lg_sl ([.ref (q 0), .int x1]) ++ List.replicate (3 - (lg_sl ([.ref (q 0), .int x1])).length) Slot.unset).toArray = ls at hl ⊢
  have hl : lv_has ls 3 [(0, .ref (q 0)), (1, .int x1)] := hl
  rcases hc : pX6_refuse C x1 with _ | (⟨ek, eC⟩ | r)
  · unfold pL_refuse at h; rw [hc] at h; cases h
  · unfold pL_refuse at h; rw [hc] at h
    by_cases h0 : ek = 1
    · subst h0
      have h : some ((-900001 : Int32), eC) = some out := h
      refine lv_aload_n hx hb dL_refuse_0 rfl (lv_at hl 0 rfl) ?_
      refine lv_iload_n hx hb dL_refuse_1 rfl (lv_at hl 1 rfl) ?_
      refine x_call (Wd := CW G q) (e' := (1, eC)) [] [] (vx_runV (As := [.int x1]) (rest := []) ⟨hx, hb, hml, hown, hts⟩ (xX6_refuse l hl0 G q C _ x1 (1, eC) hc) (cwV 1 hts gL_refuse_X6_refuse rfl rfl rfl (by decide +kernel) ⟨Nat.le_of_ble_eq_true rfl, Nat.le_of_ble_eq_true rfl⟩) (xV (fr_mid [] [] hP) (fr_midD [] [] hD) hS hK hA hE 5 0 rfl rfl) rfl rfl hl.1 rfl (lv_room (Nat.le_of_ble_eq_true rfl)) dL_refuse_2 ⟨Nat.le_of_ble_eq_true rfl, Nat.le_of_ble_eq_true rfl⟩) hP hD hS hA (fun _ => rfl) (fun ce q9 H locs hP hD hS hce hcv hcl => ?_)
      refine vx_catch hown [] (⟨0, 5, 6, 15⟩ : ExceptionTableEntry) [(⟨0, 5, 10, 18⟩ : ExceptionTableEntry), (⟨0, 5, 14, 21⟩ : ExceptionTableEntry), (⟨0, 5, 18, 28⟩ : ExceptionTableEntry)] (htab.trans rfl) (fun _ hz => absurd hz List.not_mem_nil) (by decide) (by decide) (w_mem hts 1 rfl) (hK.2.at 43 rfl) hce hcv hcl ?_
      refine lv_astore_n (lv' := [(2, .ref q9), (0, .ref (q 0)), (1, .int x1)]) hx hb dL_refuse_6 rfl hl (by decide) rfl (fun ls hl => ?_)
      refine lv_ldc (own := RL) (v := -900001) hx hb hown (w_mem hts 5 rfl) dL_refuse_7 ?_
      exact W.iret (v := -900001) hx hb hr (fun t ht _ => ⟨⟨-900001, eC, rfl, Option.some.inj h, by show va_P G.1 vwCl (CW G q eC) t.heap; rw [ht]; exact hP⟩, hS.F ht⟩) hS.2.2 dL_refuse_9 hlocks
    by_cases h1 : ek = 2
    · subst h1
      have h : some ((-900002 : Int32), eC) = some out := h
      refine lv_aload_n hx hb dL_refuse_0 rfl (lv_at hl 0 rfl) ?_
      refine lv_iload_n hx hb dL_refuse_1 rfl (lv_at hl 1 rfl) ?_
      refine x_call (Wd := CW G q) (e' := (2, eC)) [] [] (vx_runV (As := [.int x1]) (rest := []) ⟨hx, hb, hml, hown, hts⟩ (xX6_refuse l hl0 G q C _ x1 (2, eC) hc) (cwV 1 hts gL_refuse_X6_refuse rfl rfl rfl (by decide +kernel) ⟨Nat.le_of_ble_eq_true rfl, Nat.le_of_ble_eq_true rfl⟩) (xV (fr_mid [] [] hP) (fr_midD [] [] hD) hS hK hA hE 5 0 rfl rfl) rfl rfl hl.1 rfl (lv_room (Nat.le_of_ble_eq_true rfl)) dL_refuse_2 ⟨Nat.le_of_ble_eq_true rfl, Nat.le_of_ble_eq_true rfl⟩) hP hD hS hA (fun _ => rfl) (fun ce q9 H locs hP hD hS hce hcv hcl => ?_)
      refine vx_catch hown [(⟨0, 5, 6, 15⟩ : ExceptionTableEntry)] (⟨0, 5, 10, 18⟩ : ExceptionTableEntry) [(⟨0, 5, 14, 21⟩ : ExceptionTableEntry), (⟨0, 5, 18, 28⟩ : ExceptionTableEntry)] (htab.trans rfl) (List.forall_mem_cons.mpr ⟨Or.inr ⟨by decide, "java/lang/IndexOutOfBoundsException", (w_mem hts 1 rfl), hE.2.2.2 2 1 ⟨by decide, by decide⟩ ⟨by decide, by decide⟩ (by decide)⟩, fun _ hz => absurd hz List.not_mem_nil⟩) (by decide) (by decide) (w_mem hts 2 rfl) (hK.2.at 44 rfl) hce hcv hcl ?_
      refine lv_astore_n (lv' := [(2, .ref q9), (0, .ref (q 0)), (1, .int x1)]) hx hb dL_refuse_10 rfl hl (by decide) rfl (fun ls hl => ?_)
      refine lv_ldc (own := RL) (v := -900002) hx hb hown (w_mem hts 6 rfl) dL_refuse_11 ?_
      exact W.iret (v := -900002) hx hb hr (fun t ht _ => ⟨⟨-900002, eC, rfl, Option.some.inj h, by show va_P G.1 vwCl (CW G q eC) t.heap; rw [ht]; exact hP⟩, hS.F ht⟩) hS.2.2 dL_refuse_13 hlocks
    by_cases h2 : ek = 3
    · subst h2
      have h : some ((-900003 : Int32), eC) = some out := h
      refine lv_aload_n hx hb dL_refuse_0 rfl (lv_at hl 0 rfl) ?_
      refine lv_iload_n hx hb dL_refuse_1 rfl (lv_at hl 1 rfl) ?_
      refine x_call (Wd := CW G q) (e' := (3, eC)) [] [] (vx_runV (As := [.int x1]) (rest := []) ⟨hx, hb, hml, hown, hts⟩ (xX6_refuse l hl0 G q C _ x1 (3, eC) hc) (cwV 1 hts gL_refuse_X6_refuse rfl rfl rfl (by decide +kernel) ⟨Nat.le_of_ble_eq_true rfl, Nat.le_of_ble_eq_true rfl⟩) (xV (fr_mid [] [] hP) (fr_midD [] [] hD) hS hK hA hE 5 0 rfl rfl) rfl rfl hl.1 rfl (lv_room (Nat.le_of_ble_eq_true rfl)) dL_refuse_2 ⟨Nat.le_of_ble_eq_true rfl, Nat.le_of_ble_eq_true rfl⟩) hP hD hS hA (fun _ => rfl) (fun ce q9 H locs hP hD hS hce hcv hcl => ?_)
      refine vx_catch hown [(⟨0, 5, 6, 15⟩ : ExceptionTableEntry), (⟨0, 5, 10, 18⟩ : ExceptionTableEntry)] (⟨0, 5, 14, 21⟩ : ExceptionTableEntry) [(⟨0, 5, 18, 28⟩ : ExceptionTableEntry)] (htab.trans rfl) (List.forall_mem_cons.mpr ⟨Or.inr ⟨by decide, "java/lang/IndexOutOfBoundsException", (w_mem hts 1 rfl), hE.2.2.2 3 1 ⟨by decide, by decide⟩ ⟨by decide, by decide⟩ (by decide)⟩, List.forall_mem_cons.mpr ⟨Or.inr ⟨by decide, "java/lang/IllegalArgumentException", (w_mem hts 2 rfl), hE.2.2.2 3 2 ⟨by decide, by decide⟩ ⟨by decide, by decide⟩ (by decide)⟩, fun _ hz => absurd hz List.not_mem_nil⟩⟩) (by decide) (by decide) (w_mem hts 3 rfl) (hK.2.at 45 rfl) hce hcv hcl ?_
      refine lv_astore_n (lv' := [(2, .ref q9), (0, .ref (q 0)), (1, .int x1)]) hx hb dL_refuse_14 rfl hl (by decide) rfl (fun ls hl => ?_)
      refine lv_ldc (own := RL) (v := -900003) hx hb hown (w_mem hts 7 rfl) dL_refuse_15 ?_
      exact W.iret (v := -900003) hx hb hr (fun t ht _ => ⟨⟨-900003, eC, rfl, Option.some.inj h, by show va_P G.1 vwCl (CW G q eC) t.heap; rw [ht]; exact hP⟩, hS.F ht⟩) hS.2.2 dL_refuse_17 hlocks
    by_cases h3 : ek = 4
    · subst h3
      have h : some ((-900004 : Int32), eC) = some out := h
      refine lv_aload_n hx hb dL_refuse_0 rfl (lv_at hl 0 rfl) ?_
      refine lv_iload_n hx hb dL_refuse_1 rfl (lv_at hl 1 rfl) ?_
      refine x_call (Wd := CW G q) (e' := (4, eC)) [] [] (vx_runV (As := [.int x1]) (rest := []) ⟨hx, hb, hml, hown, hts⟩ (xX6_refuse l hl0 G q C _ x1 (4, eC) hc) (cwV 1 hts gL_refuse_X6_refuse rfl rfl rfl (by decide +kernel) ⟨Nat.le_of_ble_eq_true rfl, Nat.le_of_ble_eq_true rfl⟩) (xV (fr_mid [] [] hP) (fr_midD [] [] hD) hS hK hA hE 5 0 rfl rfl) rfl rfl hl.1 rfl (lv_room (Nat.le_of_ble_eq_true rfl)) dL_refuse_2 ⟨Nat.le_of_ble_eq_true rfl, Nat.le_of_ble_eq_true rfl⟩) hP hD hS hA (fun _ => rfl) (fun ce q9 H locs hP hD hS hce hcv hcl => ?_)
      refine vx_catch hown [(⟨0, 5, 6, 15⟩ : ExceptionTableEntry), (⟨0, 5, 10, 18⟩ : ExceptionTableEntry), (⟨0, 5, 14, 21⟩ : ExceptionTableEntry)] (⟨0, 5, 18, 28⟩ : ExceptionTableEntry) [] (htab.trans rfl) (List.forall_mem_cons.mpr ⟨Or.inr ⟨by decide, "java/lang/IndexOutOfBoundsException", (w_mem hts 1 rfl), hE.2.2.2 4 1 ⟨by decide, by decide⟩ ⟨by decide, by decide⟩ (by decide)⟩, List.forall_mem_cons.mpr ⟨Or.inr ⟨by decide, "java/lang/IllegalArgumentException", (w_mem hts 2 rfl), hE.2.2.2 4 2 ⟨by decide, by decide⟩ ⟨by decide, by decide⟩ (by decide)⟩, List.forall_mem_cons.mpr ⟨Or.inr ⟨by decide, "java/lang/IllegalStateException", (w_mem hts 3 rfl), hE.2.2.2 4 3 ⟨by decide, by decide⟩ ⟨by decide, by decide⟩ (by decide)⟩, fun _ hz => absurd hz List.not_mem_nil⟩⟩⟩) (by decide) (by decide) (w_mem hts 4 rfl) (hK.2.at 46 rfl) hce hcv hcl ?_
      refine lv_astore_n (lv' := [(2, .ref q9), (0, .ref (q 0)), (1, .int x1)]) hx hb dL_refuse_18 rfl hl (by decide) rfl (fun ls hl => ?_)
      refine lv_ldc (own := RL) (v := -900004) hx hb hown (w_mem hts 8 rfl) dL_refuse_19 ?_
      exact W.iret (v := -900004) hx hb hr (fun t ht _ => ⟨⟨-900004, eC, rfl, Option.some.inj h, by show va_P G.1 vwCl (CW G q eC) t.heap; rw [ht]; exact hP⟩, hS.F ht⟩) hS.2.2 dL_refuse_21 hlocks
    · exact absurd h (by simp [wresW, cdL_refuse, h0, h1, h2, h3])
  · unfold pL_refuse at h; rw [hc] at h
    refine lv_aload_n hx hb dL_refuse_0 rfl (lv_at hl 0 rfl) ?_
    refine lv_iload_n hx hb dL_refuse_1 rfl (lv_at hl 1 rfl) ?_
    refine wf_i (Wd := CW G q) [] [] (va_runV (As := [.int x1]) (rest := []) ⟨hx, hb, hml, hown, hts⟩ (kX6_refuse l G q C _ x1 r hc) (cwV 1 hts gL_refuse_X6_refuse rfl rfl rfl (by decide +kernel) ⟨Nat.le_of_ble_eq_true rfl, Nat.le_of_ble_eq_true rfl⟩) (wrV (fr_mid [] [] hP) (fr_midD [] [] hD) hK 5 0 rfl rfl) rfl rfl hl.1 rfl (lv_room (Nat.le_of_ble_eq_true rfl)) dL_refuse_2 ⟨Nat.zero_le _, Nat.zero_le _⟩) hP hD hS hA (fun _ => rfl) (fun H locs hP hD hS => ?_)
    refine W.widen (k := 1) (n := 6) (Nat.le_of_ble_eq_true rfl) (Nat.le_of_ble_eq_true rfl) ?_
    exact W.iret (v := r.1) hx hb hr (fun t ht _ => ⟨⟨r.1, r.2, rfl, Option.some.inj h, by show va_P G.1 vwCl (CW G q r.2) t.heap; rw [ht]; exact hP⟩, hS.F ht⟩) hS.2.2 dL_refuse_5 hlocks

def rmL_retract : Room := { frames := 8, cells := 1, slots := 6, locals := 143 }
set_option maxHeartbeats 4000000 in
set_option maxRecDepth 100000 in
theorem kL_retract (l : Launch) (hl0 : l.stackTraces = false) (G : GT) (q : Nat → Nat) (C : St) (sz : Nat) (x1 : Int32) (out : Int32 × St) (h : pL_retract C x1 = some out) : Met l yL_retract wsL_retract rmL_retract (va_Pc [.ref (q 0), .int x1] (xP G (CW G q C) sz)) (va_Qi (fun v u => (v, u) = out) (fun u t => va_P G.1 vwCl (CW G q u) t.heap) (va_A (CW G q C) sz)) 1 6 (va_A (CW G q C) sz) := by
  refine va_MetW (cc := cL_retract) (maxL := 3) (ret := (some .int)) (by decide) rfl ?_
  intro p e s m args below meth c s₁ B hml hv
  obtain ⟨rfl, ⟨hsz, hP, hK, hD0⟩, hE⟩ := hv
  have htab := vx_table (x := yL_retract) B (atoms_spec (ws := wsL_retract) B.pre _ List.mem_cons_self)
  have bx := bx_of B hml
  subst hsz
  have hD := hD0.self (sz := s.heap.size)
  generalize hAe : va_A (CW G q C) s.heap.size = A at hD hE ⊢
  have hA : ∀ q : Nat, s.heap.size ≤ q → A q := fun q h => by rw [← hAe]; exact Or.inr h
  have hS : va_S A s.heap s.heap [] := va_S.rf
  have hP : va_P G.1 vwCl ([] ++ (CW G q C ++ [])) s.heap := hP
  have hD : va_D A ([] ++ (CW G q C ++ [])) := hD
  obtain ⟨hx, hb, hr, hts, hown, hml, hlocks⟩ := id bx
  have hl := lv_entry ([.ref (q 0), .int x1]) (n := 3) (Nat.le_of_ble_eq_true rfl)
  rw [lg_entry_eq]
  generalize (lg_sl ([.ref (q 0), .int x1]) ++ List.replicate (3 - (lg_sl ([.ref (q 0), .int x1])).length) Slot.unset).toArray = ls at hl ⊢
  have hl : lv_has ls 3 [(0, .ref (q 0)), (1, .int x1)] := hl
  rcases hc : pX6_retract C x1 with _ | (⟨ek, eC⟩ | r)
  · unfold pL_retract at h; rw [hc] at h; cases h
  · unfold pL_retract at h; rw [hc] at h
    by_cases h0 : ek = 1
    · subst h0
      have h : some ((-900001 : Int32), eC) = some out := h
      refine lv_aload_n hx hb dL_retract_0 rfl (lv_at hl 0 rfl) ?_
      refine lv_iload_n hx hb dL_retract_1 rfl (lv_at hl 1 rfl) ?_
      refine x_call (Wd := CW G q) (e' := (1, eC)) [] [] (vx_runV (As := [.int x1]) (rest := []) ⟨hx, hb, hml, hown, hts⟩ (xX6_retract l hl0 G q C _ x1 (1, eC) hc) (cwV 1 hts gL_retract_X6_retract rfl rfl rfl (by decide +kernel) ⟨Nat.le_of_ble_eq_true rfl, Nat.le_of_ble_eq_true rfl⟩) (xV (fr_mid [] [] hP) (fr_midD [] [] hD) hS hK hA hE 5 0 rfl rfl) rfl rfl hl.1 rfl (lv_room (Nat.le_of_ble_eq_true rfl)) dL_retract_2 ⟨Nat.le_of_ble_eq_true rfl, Nat.le_of_ble_eq_true rfl⟩) hP hD hS hA (fun _ => rfl) (fun ce q9 H locs hP hD hS hce hcv hcl => ?_)
      refine vx_catch hown [] (⟨0, 5, 6, 15⟩ : ExceptionTableEntry) [(⟨0, 5, 10, 21⟩ : ExceptionTableEntry)] (htab.trans rfl) (fun _ hz => absurd hz List.not_mem_nil) (by decide) (by decide) (w_mem hts 1 rfl) (hK.2.at 43 rfl) hce hcv hcl ?_
      refine lv_astore_n (lv' := [(2, .ref q9), (0, .ref (q 0)), (1, .int x1)]) hx hb dL_retract_6 rfl hl (by decide) rfl (fun ls hl => ?_)
      refine lv_ldc (own := RL) (v := -900001) hx hb hown (w_mem hts 3 rfl) dL_retract_7 ?_
      exact W.iret (v := -900001) hx hb hr (fun t ht _ => ⟨⟨-900001, eC, rfl, Option.some.inj h, by show va_P G.1 vwCl (CW G q eC) t.heap; rw [ht]; exact hP⟩, hS.F ht⟩) hS.2.2 dL_retract_9 hlocks
    by_cases h1 : ek = 3
    · subst h1
      have h : some ((-900002 : Int32), eC) = some out := h
      refine lv_aload_n hx hb dL_retract_0 rfl (lv_at hl 0 rfl) ?_
      refine lv_iload_n hx hb dL_retract_1 rfl (lv_at hl 1 rfl) ?_
      refine x_call (Wd := CW G q) (e' := (3, eC)) [] [] (vx_runV (As := [.int x1]) (rest := []) ⟨hx, hb, hml, hown, hts⟩ (xX6_retract l hl0 G q C _ x1 (3, eC) hc) (cwV 1 hts gL_retract_X6_retract rfl rfl rfl (by decide +kernel) ⟨Nat.le_of_ble_eq_true rfl, Nat.le_of_ble_eq_true rfl⟩) (xV (fr_mid [] [] hP) (fr_midD [] [] hD) hS hK hA hE 5 0 rfl rfl) rfl rfl hl.1 rfl (lv_room (Nat.le_of_ble_eq_true rfl)) dL_retract_2 ⟨Nat.le_of_ble_eq_true rfl, Nat.le_of_ble_eq_true rfl⟩) hP hD hS hA (fun _ => rfl) (fun ce q9 H locs hP hD hS hce hcv hcl => ?_)
      refine vx_catch hown [(⟨0, 5, 6, 15⟩ : ExceptionTableEntry)] (⟨0, 5, 10, 21⟩ : ExceptionTableEntry) [] (htab.trans rfl) (List.forall_mem_cons.mpr ⟨Or.inr ⟨by decide, "java/lang/IndexOutOfBoundsException", (w_mem hts 1 rfl), hE.2.2.2 3 1 ⟨by decide, by decide⟩ ⟨by decide, by decide⟩ (by decide)⟩, fun _ hz => absurd hz List.not_mem_nil⟩) (by decide) (by decide) (w_mem hts 2 rfl) (hK.2.at 45 rfl) hce hcv hcl ?_
      refine lv_astore_n (lv' := [(2, .ref q9), (0, .ref (q 0)), (1, .int x1)]) hx hb dL_retract_10 rfl hl (by decide) rfl (fun ls hl => ?_)
      refine lv_ldc (own := RL) (v := -900002) hx hb hown (w_mem hts 4 rfl) dL_retract_11 ?_
      exact W.iret (v := -900002) hx hb hr (fun t ht _ => ⟨⟨-900002, eC, rfl, Option.some.inj h, by show va_P G.1 vwCl (CW G q eC) t.heap; rw [ht]; exact hP⟩, hS.F ht⟩) hS.2.2 dL_retract_13 hlocks
    · exact absurd h (by simp [wresW, cdL_retract, h0, h1])
  · unfold pL_retract at h; rw [hc] at h
    refine lv_aload_n hx hb dL_retract_0 rfl (lv_at hl 0 rfl) ?_
    refine lv_iload_n hx hb dL_retract_1 rfl (lv_at hl 1 rfl) ?_
    refine wf_i (Wd := CW G q) [] [] (va_runV (As := [.int x1]) (rest := []) ⟨hx, hb, hml, hown, hts⟩ (kX6_retract l G q C _ x1 r hc) (cwV 1 hts gL_retract_X6_retract rfl rfl rfl (by decide +kernel) ⟨Nat.le_of_ble_eq_true rfl, Nat.le_of_ble_eq_true rfl⟩) (wrV (fr_mid [] [] hP) (fr_midD [] [] hD) hK 5 0 rfl rfl) rfl rfl hl.1 rfl (lv_room (Nat.le_of_ble_eq_true rfl)) dL_retract_2 ⟨Nat.zero_le _, Nat.zero_le _⟩) hP hD hS hA (fun _ => rfl) (fun H locs hP hD hS => ?_)
    refine W.widen (k := 1) (n := 6) (Nat.le_of_ble_eq_true rfl) (Nat.le_of_ble_eq_true rfl) ?_
    exact W.iret (v := r.1) hx hb hr (fun t ht _ => ⟨⟨r.1, r.2, rfl, Option.some.inj h, by show va_P G.1 vwCl (CW G q r.2) t.heap; rw [ht]; exact hP⟩, hS.F ht⟩) hS.2.2 dL_retract_5 hlocks

def rmL_stateOf : Room := { frames := 18, cells := 1, slots := 6, locals := 458 }
set_option maxHeartbeats 4000000 in
set_option maxRecDepth 100000 in
theorem kL_stateOf (l : Launch) (hl0 : l.stackTraces = false) (G : GT) (q : Nat → Nat) (C : St) (sz : Nat) (x1 : Int32) (out : Int32 × St) (h : pL_stateOf C x1 = some out) : Met l yL_stateOf wsL_stateOf rmL_stateOf (va_Pc [.ref (q 0), .int x1] (xP G (CW G q C) sz)) (va_Qi (fun v u => (v, u) = out) (fun u t => va_P G.1 vwCl (CW G q u) t.heap) (va_A (CW G q C) sz)) 1 6 (va_A (CW G q C) sz) := by
  refine va_MetW (cc := cL_stateOf) (maxL := 3) (ret := (some .int)) (by decide) rfl ?_
  intro p e s m args below meth c s₁ B hml hv
  obtain ⟨rfl, ⟨hsz, hP, hK, hD0⟩, hE⟩ := hv
  have htab := vx_table (x := yL_stateOf) B (atoms_spec (ws := wsL_stateOf) B.pre _ List.mem_cons_self)
  have bx := bx_of B hml
  subst hsz
  have hD := hD0.self (sz := s.heap.size)
  generalize hAe : va_A (CW G q C) s.heap.size = A at hD hE ⊢
  have hA : ∀ q : Nat, s.heap.size ≤ q → A q := fun q h => by rw [← hAe]; exact Or.inr h
  have hS : va_S A s.heap s.heap [] := va_S.rf
  have hP : va_P G.1 vwCl ([] ++ (CW G q C ++ [])) s.heap := hP
  have hD : va_D A ([] ++ (CW G q C ++ [])) := hD
  obtain ⟨hx, hb, hr, hts, hown, hml, hlocks⟩ := id bx
  have hl := lv_entry ([.ref (q 0), .int x1]) (n := 3) (Nat.le_of_ble_eq_true rfl)
  rw [lg_entry_eq]
  generalize (lg_sl ([.ref (q 0), .int x1]) ++ List.replicate (3 - (lg_sl ([.ref (q 0), .int x1])).length) Slot.unset).toArray = ls at hl ⊢
  have hl : lv_has ls 3 [(0, .ref (q 0)), (1, .int x1)] := hl
  rcases hc : pX6_stateOf C x1 with _ | (ek | r)
  · unfold pL_stateOf at h; rw [hc] at h; cases h
  · unfold pL_stateOf at h; rw [hc] at h
    by_cases h0 : ek = 1
    · subst h0
      have h : some ((-900001 : Int32), C) = some out := h
      refine lv_aload_n hx hb dL_stateOf_0 rfl (lv_at hl 0 rfl) ?_
      refine lv_iload_n hx hb dL_stateOf_1 rfl (lv_at hl 1 rfl) ?_
      refine x_call (Wd := CW G q) (e' := (1, C)) [] [] (vx_runV (As := [.int x1]) (rest := []) ⟨hx, hb, hml, hown, hts⟩ (xX6_stateOf l hl0 G q C _ x1 1 hc) (cwV 1 hts gL_stateOf_X6_stateOf rfl rfl rfl (by decide +kernel) ⟨Nat.le_of_ble_eq_true rfl, Nat.le_of_ble_eq_true rfl⟩) (xV (fr_mid [] [] hP) (fr_midD [] [] hD) hS hK hA hE 5 0 rfl rfl) rfl rfl hl.1 rfl (lv_room (Nat.le_of_ble_eq_true rfl)) dL_stateOf_2 ⟨Nat.le_of_ble_eq_true rfl, Nat.le_of_ble_eq_true rfl⟩) hP hD hS hA (fun _ => rfl) (fun ce q9 H locs hP hD hS hce hcv hcl => ?_)
      refine vx_catch hown [] (⟨0, 5, 6, 15⟩ : ExceptionTableEntry) [] (htab.trans rfl) (fun _ hz => absurd hz List.not_mem_nil) (by decide) (by decide) (w_mem hts 1 rfl) (hK.2.at 43 rfl) hce hcv hcl ?_
      refine lv_astore_n (lv' := [(2, .ref q9), (0, .ref (q 0)), (1, .int x1)]) hx hb dL_stateOf_6 rfl hl (by decide) rfl (fun ls hl => ?_)
      refine lv_ldc (own := RL) (v := -900001) hx hb hown (w_mem hts 2 rfl) dL_stateOf_7 ?_
      exact W.iret (v := -900001) hx hb hr (fun t ht _ => ⟨⟨-900001, C, rfl, Option.some.inj h, by show va_P G.1 vwCl (CW G q C) t.heap; rw [ht]; exact hP⟩, hS.F ht⟩) hS.2.2 dL_stateOf_9 hlocks
    · exact absurd h (by simp [wresR, cdL_stateOf, h0])
  · unfold pL_stateOf at h; rw [hc] at h
    refine lv_aload_n hx hb dL_stateOf_0 rfl (lv_at hl 0 rfl) ?_
    refine lv_iload_n hx hb dL_stateOf_1 rfl (lv_at hl 1 rfl) ?_
    refine ro_i (va_runV (As := [.int x1]) (rest := []) ⟨hx, hb, hml, hown, hts⟩ (kX6_stateOf l G q C x1 r hc) (cwV 1 hts gL_stateOf_X6_stateOf rfl rfl rfl (by decide +kernel) ⟨Nat.le_of_ble_eq_true rfl, Nat.le_of_ble_eq_true rfl⟩) (roV (fr_mid [] [] hP) hK 5 0 rfl rfl) rfl rfl hl.1 rfl (lv_room (Nat.le_of_ble_eq_true rfl)) dL_stateOf_2 ⟨Nat.zero_le _, Nat.zero_le _⟩) ?_
    refine W.widen (k := 1) (n := 6) (Nat.le_of_ble_eq_true rfl) (Nat.le_of_ble_eq_true rfl) ?_
    exact W.iret (v := r) hx hb hr (fun t ht _ => ⟨⟨r, C, rfl, Option.some.inj h, by show va_P G.1 vwCl (CW G q C) t.heap; rw [ht]; exact hP⟩, hS.F ht⟩) hS.2.2 dL_stateOf_5 hlocks
def rmnL_stateOf : Room := { frames := 18, cells := 0, slots := 0, locals := 458 }
set_option maxHeartbeats 4000000 in
set_option maxRecDepth 100000 in
theorem knL_stateOf (l : Launch) (G : GT) (q : Nat → Nat) (C : St) (x1 : Int32) (out : Int32) (h : pnL_stateOf C x1 = some out) : Met l yL_stateOf wsL_stateOf rmnL_stateOf (va_Pc [.ref (q 0), .int x1] (roP G (CW G q C))) (vp_Si (fun v => v = out)) 0 0 (fun _ => False) := by
  refine va_MetW (cc := cL_stateOf) (maxL := 3) (ret := (some .int)) (by decide) rfl ?_
  intro p e s m args below meth c s₁ B hml hv
  obtain ⟨rfl, hP, hK⟩ := hv
  have bx := bx_of B hml
  obtain ⟨hx, hb, hr, hts, hown, hml, hlocks⟩ := id bx
  have hl := lv_entry ([.ref (q 0), .int x1]) (n := 3) (Nat.le_of_ble_eq_true rfl)
  rw [lg_entry_eq]
  generalize (lg_sl ([.ref (q 0), .int x1]) ++ List.replicate (3 - (lg_sl ([.ref (q 0), .int x1])).length) Slot.unset).toArray = ls at hl ⊢
  have hl : lv_has ls 3 [(0, .ref (q 0)), (1, .int x1)] := hl
  unfold pnL_stateOf at h
  obtain ⟨r, hc, h⟩ := tn_ex h
  show GoI p l e rmnL_stateOf s m _ below meth c out (F0 m 0 ls [])
  refine lv_aload_n hx hb dL_stateOf_0 rfl (lv_at hl 0 rfl) ?_
  refine lv_iload_n hx hb dL_stateOf_1 rfl (lv_at hl 1 rfl) ?_
  refine ro_i (va_runV (As := [.int x1]) (rest := []) ⟨hx, hb, hml, hown, hts⟩ (kX6_stateOf l G q C x1 r hc) (cwV 1 hts gL_stateOf_X6_stateOf rfl rfl rfl (by decide +kernel) ⟨Nat.le_of_ble_eq_true rfl, Nat.le_of_ble_eq_true rfl⟩) (roV hP hK 5 0 rfl rfl) rfl rfl hl.1 rfl (lv_room (Nat.le_of_ble_eq_true rfl)) dL_stateOf_2 ⟨Nat.zero_le _, Nat.zero_le _⟩) ?_
  exact GoI.end hx hb hr hlocks dL_stateOf_5 rfl h
