def rmL_stateByAll : Room := { frames := 8, cells := 1, slots := 6, locals := 156 }
set_option maxHeartbeats 4000000 in
set_option maxRecDepth 100000 in
theorem kL_stateByAll (l : Launch) (hl0 : l.stackTraces = false) (G : GT) (q : Nat → Nat) (C : St) (sz : Nat) (x1 : Int32) (out : Int32 × St) (h : pL_stateByAll C x1 = some out) : Met l yL_stateByAll wsL_stateByAll rmL_stateByAll (va_Pc [.ref (q 0), .int x1] (xP G (CW G q C) sz)) (va_Qi (fun v u => (v, u) = out) (fun u t => va_P G.1 vwCl (CW G q u) t.heap) (va_A (CW G q C) sz)) 1 6 (va_A (CW G q C) sz) := by
  refine va_MetW (cc := cL_stateByAll) (maxL := 3) (ret := (some .int)) (by decide) rfl ?_
  intro p e s m args below meth c s₁ B hml hv
  obtain ⟨rfl, ⟨hsz, hP, hK, hD0⟩, hE⟩ := hv
  have htab := vx_table (x := yL_stateByAll) B (atoms_spec (ws := wsL_stateByAll) B.pre _ List.mem_cons_self)
  have bx := bx_of B hml
  subst hsz
  have hD := hD0.self (sz := s.heap.size)
  generalize hAe : va_A (CW G q C) s.heap.size = A at hD hE ⊢
  have hA : ∀ q : Nat, s.heap.size ≤ q → A q := fun q h => by rw [← hAe]; exact Or.inr h
  have hS : va_S A s.heap s.heap [] := va_S.rf
  have hP : va_P G.1 vwCl ([] ++ (CW G q C ++ [])) s.heap := hP
  have hD : va_D A ([] ++ (CW G q C ++ [])) := hD
  obtain ⟨hx, hb, hr, hts, hown, hml, hlocks⟩ := id bx
  have hl := lv_entry ([.ref (q 0), .int x1]) (n := 3) (Nat.le_of_ble_eq_true rfl)
  rw [lg_entry_eq]
  generalize (lg_sl ([.ref (q 0), .int x1]) ++ List.replicate (3 - (lg_sl ([.ref (q 0), .int x1])).length) Slot.unset).toArray = ls at hl ⊢
  have hl : lv_has ls 3 [(0, .ref (q 0)), (1, .int x1)] := hl
  rcases hc : pX6_stateByAll C x1 with _ | (ek | r)
  · unfold pL_stateByAll at h; rw [hc] at h; cases h
  · unfold pL_stateByAll at h; rw [hc] at h
    by_cases h0 : ek = 1
    · subst h0
      have h : some ((-900001 : Int32), C) = some out := h
      refine lv_aload_n hx hb dL_stateByAll_0 rfl (lv_at hl 0 rfl) ?_
      refine lv_iload_n hx hb dL_stateByAll_1 rfl (lv_at hl 1 rfl) ?_
      refine x_call (Wd := CW G q) (e' := (1, C)) [] [] (vx_runV (As := [.int x1]) (rest := []) ⟨hx, hb, hml, hown, hts⟩ (xX6_stateByAll l hl0 G q C _ x1 1 hc) (cwV 1 hts gL_stateByAll_X6_stateByAll rfl rfl rfl (by decide +kernel) ⟨Nat.le_of_ble_eq_true rfl, Nat.le_of_ble_eq_true rfl⟩) (xV (fr_mid [] [] hP) (fr_midD [] [] hD) hS hK hA hE 5 0 rfl rfl) rfl rfl hl.1 rfl (lv_room (Nat.le_of_ble_eq_true rfl)) dL_stateByAll_2 ⟨Nat.le_of_ble_eq_true rfl, Nat.le_of_ble_eq_true rfl⟩) hP hD hS hA (fun _ => rfl) (fun ce q9 H locs hP hD hS hce hcv hcl => ?_)
      refine vx_catch hown [] (⟨0, 5, 6, 15⟩ : ExceptionTableEntry) [] (htab.trans rfl) (fun _ hz => absurd hz List.not_mem_nil) (by decide) (by decide) (w_mem hts 1 rfl) (hK.2.at 43 rfl) hce hcv hcl ?_
      refine lv_astore_n (lv' := [(2, .ref q9), (0, .ref (q 0)), (1, .int x1)]) hx hb dL_stateByAll_6 rfl hl (by decide) rfl (fun ls hl => ?_)
      refine lv_ldc (own := RL) (v := -900001) hx hb hown (w_mem hts 2 rfl) dL_stateByAll_7 ?_
      exact W.iret (v := -900001) hx hb hr (fun t ht _ => ⟨⟨-900001, C, rfl, Option.some.inj h, by show va_P G.1 vwCl (CW G q C) t.heap; rw [ht]; exact hP⟩, hS.F ht⟩) hS.2.2 dL_stateByAll_9 hlocks
    · exact absurd h (by simp [wresR, cdL_stateByAll, h0])
  · unfold pL_stateByAll at h; rw [hc] at h
    refine lv_aload_n hx hb dL_stateByAll_0 rfl (lv_at hl 0 rfl) ?_
    refine lv_iload_n hx hb dL_stateByAll_1 rfl (lv_at hl 1 rfl) ?_
    refine ro_i (va_runV (As := [.int x1]) (rest := []) ⟨hx, hb, hml, hown, hts⟩ (kX6_stateByAll l G q C x1 r hc) (cwV 1 hts gL_stateByAll_X6_stateByAll rfl rfl rfl (by decide +kernel) ⟨Nat.le_of_ble_eq_true rfl, Nat.le_of_ble_eq_true rfl⟩) (roV (fr_mid [] [] hP) hK 5 0 rfl rfl) rfl rfl hl.1 rfl (lv_room (Nat.le_of_ble_eq_true rfl)) dL_stateByAll_2 ⟨Nat.zero_le _, Nat.zero_le _⟩) ?_
    refine W.widen (k := 1) (n := 6) (Nat.le_of_ble_eq_true rfl) (Nat.le_of_ble_eq_true rfl) ?_
    exact W.iret (v := r) hx hb hr (fun t ht _ => ⟨⟨r, C, rfl, Option.some.inj h, by show va_P G.1 vwCl (CW G q C) t.heap; rw [ht]; exact hP⟩, hS.F ht⟩) hS.2.2 dL_stateByAll_5 hlocks
def rmnL_stateByAll : Room := { frames := 8, cells := 0, slots := 0, locals := 156 }
set_option maxHeartbeats 4000000 in
set_option maxRecDepth 100000 in
theorem knL_stateByAll (l : Launch) (G : GT) (q : Nat → Nat) (C : St) (x1 : Int32) (out : Int32) (h : pnL_stateByAll C x1 = some out) : Met l yL_stateByAll wsL_stateByAll rmnL_stateByAll (va_Pc [.ref (q 0), .int x1] (roP G (CW G q C))) (vp_Si (fun v => v = out)) 0 0 (fun _ => False) := by
  refine va_MetW (cc := cL_stateByAll) (maxL := 3) (ret := (some .int)) (by decide) rfl ?_
  intro p e s m args below meth c s₁ B hml hv
  obtain ⟨rfl, hP, hK⟩ := hv
  have bx := bx_of B hml
  obtain ⟨hx, hb, hr, hts, hown, hml, hlocks⟩ := id bx
  have hl := lv_entry ([.ref (q 0), .int x1]) (n := 3) (Nat.le_of_ble_eq_true rfl)
  rw [lg_entry_eq]
  generalize (lg_sl ([.ref (q 0), .int x1]) ++ List.replicate (3 - (lg_sl ([.ref (q 0), .int x1])).length) Slot.unset).toArray = ls at hl ⊢
  have hl : lv_has ls 3 [(0, .ref (q 0)), (1, .int x1)] := hl
  unfold pnL_stateByAll at h
  obtain ⟨r, hc, h⟩ := tn_ex h
  show GoI p l e rmnL_stateByAll s m _ below meth c out (F0 m 0 ls [])
  refine lv_aload_n hx hb dL_stateByAll_0 rfl (lv_at hl 0 rfl) ?_
  refine lv_iload_n hx hb dL_stateByAll_1 rfl (lv_at hl 1 rfl) ?_
  refine ro_i (va_runV (As := [.int x1]) (rest := []) ⟨hx, hb, hml, hown, hts⟩ (kX6_stateByAll l G q C x1 r hc) (cwV 1 hts gL_stateByAll_X6_stateByAll rfl rfl rfl (by decide +kernel) ⟨Nat.le_of_ble_eq_true rfl, Nat.le_of_ble_eq_true rfl⟩) (roV hP hK 5 0 rfl rfl) rfl rfl hl.1 rfl (lv_room (Nat.le_of_ble_eq_true rfl)) dL_stateByAll_2 ⟨Nat.zero_le _, Nat.zero_le _⟩) ?_
  exact GoI.end hx hb hr hlocks dL_stateByAll_5 rfl h

def rmL_setMandatory : Room := { frames := 19, cells := 1, slots := 6, locals := 478 }
set_option maxHeartbeats 4000000 in
set_option maxRecDepth 100000 in
theorem kL_setMandatory (l : Launch) (hl0 : l.stackTraces = false) (G : GT) (q : Nat → Nat) (C : St) (sz : Nat) (x1 : Int32) (x2 : Int32) (out : Int32 × St) (h : pL_setMandatory C x1 x2 = some out) : Met l yL_setMandatory wsL_setMandatory rmL_setMandatory (va_Pc [.ref (q 0), .int x1, .int x2] (xP G (CW G q C) sz)) (va_Qi (fun v u => (v, u) = out) (fun u t => va_P G.1 vwCl (CW G q u) t.heap) (va_A (CW G q C) sz)) 1 6 (va_A (CW G q C) sz) := by
  refine va_MetW (cc := cL_setMandatory) (maxL := 4) (ret := (some .int)) (by decide) rfl ?_
  intro p e s m args below meth c s₁ B hml hv
  obtain ⟨rfl, ⟨hsz, hP, hK, hD0⟩, hE⟩ := hv
  have htab := vx_table (x := yL_setMandatory) B (atoms_spec (ws := wsL_setMandatory) B.pre _ List.mem_cons_self)
  have bx := bx_of B hml
  subst hsz
  have hD := hD0.self (sz := s.heap.size)
  generalize hAe : va_A (CW G q C) s.heap.size = A at hD hE ⊢
  have hA : ∀ q : Nat, s.heap.size ≤ q → A q := fun q h => by rw [← hAe]; exact Or.inr h
  have hS : va_S A s.heap s.heap [] := va_S.rf
  have hP : va_P G.1 vwCl ([] ++ (CW G q C ++ [])) s.heap := hP
  have hD : va_D A ([] ++ (CW G q C ++ [])) := hD
  obtain ⟨hx, hb, hr, hts, hown, hml, hlocks⟩ := id bx
  have hl := lv_entry ([.ref (q 0), .int x1, .int x2]) (n := 4) (Nat.le_of_ble_eq_true rfl)
  rw [lg_entry_eq]
  generalize (lg_sl ([.ref (q 0), .int x1, .int x2]) ++ List.replicate (4 - (lg_sl ([.ref (q 0), .int x1, .int x2])).length) Slot.unset).toArray = ls at hl ⊢
  have hl : lv_has ls 4 [(0, .ref (q 0)), (1, .int x1), (2, .int x2)] := hl
  rcases hc : pX6_setMandatory C x1 x2 with _ | (⟨ek, eC⟩ | r)
  · unfold pL_setMandatory at h; rw [hc] at h; cases h
  · unfold pL_setMandatory at h; rw [hc] at h
    by_cases h0 : ek = 1
    · subst h0
      have h : some ((-900001 : Int32), eC) = some out := h
      refine lv_aload_n hx hb dL_setMandatory_0 rfl (lv_at hl 0 rfl) ?_
      refine lv_iload_n hx hb dL_setMandatory_1 rfl (lv_at hl 1 rfl) ?_
      refine lv_iload_n hx hb dL_setMandatory_2 rfl (lv_at hl 2 rfl) ?_
      refine x_call (Wd := CW G q) (e' := (1, eC)) [] [] (vx_runV (As := [.int x1, .int x2]) (rest := []) ⟨hx, hb, hml, hown, hts⟩ (xX6_setMandatory l hl0 G q C _ x1 x2 (1, eC) hc) (cwV 2 hts gL_setMandatory_X6_setMandatory rfl rfl rfl (by decide +kernel) ⟨Nat.le_of_ble_eq_true rfl, Nat.le_of_ble_eq_true rfl⟩) (xV (fr_mid [] [] hP) (fr_midD [] [] hD) hS hK hA hE 5 0 rfl rfl) rfl rfl hl.1 rfl (lv_room (Nat.le_of_ble_eq_true rfl)) dL_setMandatory_3 ⟨Nat.le_of_ble_eq_true rfl, Nat.le_of_ble_eq_true rfl⟩) hP hD hS hA (fun _ => rfl) (fun ce q9 H locs hP hD hS hce hcv hcl => ?_)
      refine vx_catch hown [] (⟨0, 14, 15, 15⟩ : ExceptionTableEntry) [(⟨0, 14, 19, 18⟩ : ExceptionTableEntry), (⟨0, 14, 23, 28⟩ : ExceptionTableEntry)] (htab.trans rfl) (fun _ hz => absurd hz List.not_mem_nil) (by decide) (by decide) (w_mem hts 1 rfl) (hK.2.at 43 rfl) hce hcv hcl ?_
      refine lv_astore_n (lv' := [(3, .ref q9), (0, .ref (q 0)), (1, .int x1), (2, .int x2)]) hx hb dL_setMandatory_15 rfl hl (by decide) rfl (fun ls hl => ?_)
      refine lv_ldc (own := RL) (v := -900001) hx hb hown (w_mem hts 4 rfl) dL_setMandatory_16 ?_
      exact W.iret (v := -900001) hx hb hr (fun t ht _ => ⟨⟨-900001, eC, rfl, Option.some.inj h, by show va_P G.1 vwCl (CW G q eC) t.heap; rw [ht]; exact hP⟩, hS.F ht⟩) hS.2.2 dL_setMandatory_18 hlocks
    by_cases h1 : ek = 2
    · subst h1
      have h : some ((-900002 : Int32), eC) = some out := h
      refine lv_aload_n hx hb dL_setMandatory_0 rfl (lv_at hl 0 rfl) ?_
      refine lv_iload_n hx hb dL_setMandatory_1 rfl (lv_at hl 1 rfl) ?_
      refine lv_iload_n hx hb dL_setMandatory_2 rfl (lv_at hl 2 rfl) ?_
      refine x_call (Wd := CW G q) (e' := (2, eC)) [] [] (vx_runV (As := [.int x1, .int x2]) (rest := []) ⟨hx, hb, hml, hown, hts⟩ (xX6_setMandatory l hl0 G q C _ x1 x2 (2, eC) hc) (cwV 2 hts gL_setMandatory_X6_setMandatory rfl rfl rfl (by decide +kernel) ⟨Nat.le_of_ble_eq_true rfl, Nat.le_of_ble_eq_true rfl⟩) (xV (fr_mid [] [] hP) (fr_midD [] [] hD) hS hK hA hE 5 0 rfl rfl) rfl rfl hl.1 rfl (lv_room (Nat.le_of_ble_eq_true rfl)) dL_setMandatory_3 ⟨Nat.le_of_ble_eq_true rfl, Nat.le_of_ble_eq_true rfl⟩) hP hD hS hA (fun _ => rfl) (fun ce q9 H locs hP hD hS hce hcv hcl => ?_)
      refine vx_catch hown [(⟨0, 14, 15, 15⟩ : ExceptionTableEntry)] (⟨0, 14, 19, 18⟩ : ExceptionTableEntry) [(⟨0, 14, 23, 28⟩ : ExceptionTableEntry)] (htab.trans rfl) (List.forall_mem_cons.mpr ⟨Or.inr ⟨by decide, "java/lang/IndexOutOfBoundsException", (w_mem hts 1 rfl), hE.2.2.2 2 1 ⟨by decide, by decide⟩ ⟨by decide, by decide⟩ (by decide)⟩, fun _ hz => absurd hz List.not_mem_nil⟩) (by decide) (by decide) (w_mem hts 2 rfl) (hK.2.at 44 rfl) hce hcv hcl ?_
      refine lv_astore_n (lv' := [(3, .ref q9), (0, .ref (q 0)), (1, .int x1), (2, .int x2)]) hx hb dL_setMandatory_19 rfl hl (by decide) rfl (fun ls hl => ?_)
      refine lv_ldc (own := RL) (v := -900002) hx hb hown (w_mem hts 5 rfl) dL_setMandatory_20 ?_
      exact W.iret (v := -900002) hx hb hr (fun t ht _ => ⟨⟨-900002, eC, rfl, Option.some.inj h, by show va_P G.1 vwCl (CW G q eC) t.heap; rw [ht]; exact hP⟩, hS.F ht⟩) hS.2.2 dL_setMandatory_22 hlocks
    by_cases h2 : ek = 4
    · subst h2
      have h : some ((-900003 : Int32), eC) = some out := h
      refine lv_aload_n hx hb dL_setMandatory_0 rfl (lv_at hl 0 rfl) ?_
      refine lv_iload_n hx hb dL_setMandatory_1 rfl (lv_at hl 1 rfl) ?_
      refine lv_iload_n hx hb dL_setMandatory_2 rfl (lv_at hl 2 rfl) ?_
      refine x_call (Wd := CW G q) (e' := (4, eC)) [] [] (vx_runV (As := [.int x1, .int x2]) (rest := []) ⟨hx, hb, hml, hown, hts⟩ (xX6_setMandatory l hl0 G q C _ x1 x2 (4, eC) hc) (cwV 2 hts gL_setMandatory_X6_setMandatory rfl rfl rfl (by decide +kernel) ⟨Nat.le_of_ble_eq_true rfl, Nat.le_of_ble_eq_true rfl⟩) (xV (fr_mid [] [] hP) (fr_midD [] [] hD) hS hK hA hE 5 0 rfl rfl) rfl rfl hl.1 rfl (lv_room (Nat.le_of_ble_eq_true rfl)) dL_setMandatory_3 ⟨Nat.le_of_ble_eq_true rfl, Nat.le_of_ble_eq_true rfl⟩) hP hD hS hA (fun _ => rfl) (fun ce q9 H locs hP hD hS hce hcv hcl => ?_)
      refine vx_catch hown [(⟨0, 14, 15, 15⟩ : ExceptionTableEntry), (⟨0, 14, 19, 18⟩ : ExceptionTableEntry)] (⟨0, 14, 23, 28⟩ : ExceptionTableEntry) [] (htab.trans rfl) (List.forall_mem_cons.mpr ⟨Or.inr ⟨by decide, "java/lang/IndexOutOfBoundsException", (w_mem hts 1 rfl), hE.2.2.2 4 1 ⟨by decide, by decide⟩ ⟨by decide, by decide⟩ (by decide)⟩, List.forall_mem_cons.mpr ⟨Or.inr ⟨by decide, "java/lang/IllegalArgumentException", (w_mem hts 2 rfl), hE.2.2.2 4 2 ⟨by decide, by decide⟩ ⟨by decide, by decide⟩ (by decide)⟩, fun _ hz => absurd hz List.not_mem_nil⟩⟩) (by decide) (by decide) (w_mem hts 3 rfl) (hK.2.at 46 rfl) hce hcv hcl ?_
      refine lv_astore_n (lv' := [(3, .ref q9), (0, .ref (q 0)), (1, .int x1), (2, .int x2)]) hx hb dL_setMandatory_23 rfl hl (by decide) rfl (fun ls hl => ?_)
      refine lv_ldc (own := RL) (v := -900003) hx hb hown (w_mem hts 6 rfl) dL_setMandatory_24 ?_
      exact W.iret (v := -900003) hx hb hr (fun t ht _ => ⟨⟨-900003, eC, rfl, Option.some.inj h, by show va_P G.1 vwCl (CW G q eC) t.heap; rw [ht]; exact hP⟩, hS.F ht⟩) hS.2.2 dL_setMandatory_26 hlocks
    · exact absurd h (by simp [wresW, cdL_setMandatory, h0, h1, h2])
  · unfold pL_setMandatory at h; rw [hc] at h
    refine lv_aload_n hx hb dL_setMandatory_0 rfl (lv_at hl 0 rfl) ?_
    refine lv_iload_n hx hb dL_setMandatory_1 rfl (lv_at hl 1 rfl) ?_
    refine lv_iload_n hx hb dL_setMandatory_2 rfl (lv_at hl 2 rfl) ?_
    refine wf_i (Wd := CW G q) [] [] (va_runV (As := [.int x1, .int x2]) (rest := []) ⟨hx, hb, hml, hown, hts⟩ (kX6_setMandatory l G q C _ x1 x2 r hc) (cwV 2 hts gL_setMandatory_X6_setMandatory rfl rfl rfl (by decide +kernel) ⟨Nat.le_of_ble_eq_true rfl, Nat.le_of_ble_eq_true rfl⟩) (wrV (fr_mid [] [] hP) (fr_midD [] [] hD) hK 5 0 rfl rfl) rfl rfl hl.1 rfl (lv_room (Nat.le_of_ble_eq_true rfl)) dL_setMandatory_3 ⟨Nat.zero_le _, Nat.zero_le _⟩) hP hD hS hA (fun _ => rfl) (fun H locs hP hD hS => ?_)
    have h : some ((if r.1 = 0 then (0 : Int32) else 1), r.2) = some out := h
    refine lv_if_eq (tgt := 13) hx hb dL_setMandatory_6 (by decide) (fun c0 => ?_) (fun c0 => ?_)
    · rw [if_pos c0] at h
      refine lv_iconst (v := 0) hx hb dL_setMandatory_13 (by decide) ?_
      refine W.widen (k := 1) (n := 6) (Nat.le_of_ble_eq_true rfl) (Nat.le_of_ble_eq_true rfl) ?_
      exact W.iret (v := 0) hx hb hr (fun t ht _ => ⟨⟨0, r.2, rfl, Option.some.inj h, by show va_P G.1 vwCl (CW G q r.2) t.heap; rw [ht]; exact hP⟩, hS.F ht⟩) hS.2.2 dL_setMandatory_14 hlocks
    · rw [if_neg c0] at h
      refine lv_iconst (v := 1) hx hb dL_setMandatory_9 (by decide) ?_
      refine lv_goto (tgt := 14) hx hb dL_setMandatory_10 (by decide) ?_
      refine W.widen (k := 1) (n := 6) (Nat.le_of_ble_eq_true rfl) (Nat.le_of_ble_eq_true rfl) ?_
      exact W.iret (v := 1) hx hb hr (fun t ht _ => ⟨⟨1, r.2, rfl, Option.some.inj h, by show va_P G.1 vwCl (CW G q r.2) t.heap; rw [ht]; exact hP⟩, hS.F ht⟩) hS.2.2 dL_setMandatory_14 hlocks

def rmL_isConfiguration : Room := { frames := 8, cells := 1, slots := 6, locals := 142 }
set_option maxHeartbeats 4000000 in
set_option maxRecDepth 100000 in
theorem kL_isConfiguration (l : Launch) (hl0 : l.stackTraces = false) (G : GT) (q : Nat → Nat) (C : St) (sz : Nat) (x1 : Int32) (out : Int32 × St) (h : pL_isConfiguration C x1 = some out) : Met l yL_isConfiguration wsL_isConfiguration rmL_isConfiguration (va_Pc [.ref (q 0), .int x1] (xP G (CW G q C) sz)) (va_Qi (fun v u => (v, u) = out) (fun u t => va_P G.1 vwCl (CW G q u) t.heap) (va_A (CW G q C) sz)) 1 6 (va_A (CW G q C) sz) := by
  refine va_MetW (cc := cL_isConfiguration) (maxL := 3) (ret := (some .int)) (by decide) rfl ?_
  intro p e s m args below meth c s₁ B hml hv
  obtain ⟨rfl, ⟨hsz, hP, hK, hD0⟩, hE⟩ := hv
  have htab := vx_table (x := yL_isConfiguration) B (atoms_spec (ws := wsL_isConfiguration) B.pre _ List.mem_cons_self)
  have bx := bx_of B hml
  subst hsz
  have hD := hD0.self (sz := s.heap.size)
  generalize hAe : va_A (CW G q C) s.heap.size = A at hD hE ⊢
  have hA : ∀ q : Nat, s.heap.size ≤ q → A q := fun q h => by rw [← hAe]; exact Or.inr h
  have hS : va_S A s.heap s.heap [] := va_S.rf
  have hP : va_P G.1 vwCl ([] ++ (CW G q C ++ [])) s.heap := hP
  have hD : va_D A ([] ++ (CW G q C ++ [])) := hD
  obtain ⟨hx, hb, hr, hts, hown, hml, hlocks⟩ := id bx
  have hl := lv_entry ([.ref (q 0), .int x1]) (n := 3) (Nat.le_of_ble_eq_true rfl)
  rw [lg_entry_eq]
  generalize (lg_sl ([.ref (q 0), .int x1]) ++ List.replicate (3 - (lg_sl ([.ref (q 0), .int x1])).length) Slot.unset).toArray = ls at hl ⊢
  have hl : lv_has ls 3 [(0, .ref (q 0)), (1, .int x1)] := hl
  rcases hc : pX6_isConfiguration C x1 with _ | (ek | r)
  · unfold pL_isConfiguration at h; rw [hc] at h; cases h
  · unfold pL_isConfiguration at h; rw [hc] at h
    by_cases h0 : ek = 2
    · subst h0
      have h : some ((-900001 : Int32), C) = some out := h
      refine lv_aload_n hx hb dL_isConfiguration_0 rfl (lv_at hl 0 rfl) ?_
      refine lv_iload_n hx hb dL_isConfiguration_1 rfl (lv_at hl 1 rfl) ?_
      refine x_call (Wd := CW G q) (e' := (2, C)) [] [] (vx_runV (As := [.int x1]) (rest := []) ⟨hx, hb, hml, hown, hts⟩ (xX6_isConfiguration l hl0 G q C _ x1 2 hc) (cwV 1 hts gL_isConfiguration_X6_isConfiguration rfl rfl rfl (by decide +kernel) ⟨Nat.le_of_ble_eq_true rfl, Nat.le_of_ble_eq_true rfl⟩) (xV (fr_mid [] [] hP) (fr_midD [] [] hD) hS hK hA hE 5 0 rfl rfl) rfl rfl hl.1 rfl (lv_room (Nat.le_of_ble_eq_true rfl)) dL_isConfiguration_2 ⟨Nat.le_of_ble_eq_true rfl, Nat.le_of_ble_eq_true rfl⟩) hP hD hS hA (fun _ => rfl) (fun ce q9 H locs hP hD hS hce hcv hcl => ?_)
      refine vx_catch hown [] (⟨0, 13, 14, 18⟩ : ExceptionTableEntry) [] (htab.trans rfl) (fun _ hz => absurd hz List.not_mem_nil) (by decide) (by decide) (w_mem hts 1 rfl) (hK.2.at 44 rfl) hce hcv hcl ?_
      refine lv_astore_n (lv' := [(2, .ref q9), (0, .ref (q 0)), (1, .int x1)]) hx hb dL_isConfiguration_14 rfl hl (by decide) rfl (fun ls hl => ?_)
      refine lv_ldc (own := RL) (v := -900001) hx hb hown (w_mem hts 2 rfl) dL_isConfiguration_15 ?_
      exact W.iret (v := -900001) hx hb hr (fun t ht _ => ⟨⟨-900001, C, rfl, Option.some.inj h, by show va_P G.1 vwCl (CW G q C) t.heap; rw [ht]; exact hP⟩, hS.F ht⟩) hS.2.2 dL_isConfiguration_17 hlocks
    · exact absurd h (by simp [wresR, cdL_isConfiguration, h0])
  · unfold pL_isConfiguration at h; rw [hc] at h
    refine lv_aload_n hx hb dL_isConfiguration_0 rfl (lv_at hl 0 rfl) ?_
    refine lv_iload_n hx hb dL_isConfiguration_1 rfl (lv_at hl 1 rfl) ?_
    refine ro_i (va_runV (As := [.int x1]) (rest := []) ⟨hx, hb, hml, hown, hts⟩ (kX6_isConfiguration l G q C x1 r hc) (cwV 1 hts gL_isConfiguration_X6_isConfiguration rfl rfl rfl (by decide +kernel) ⟨Nat.le_of_ble_eq_true rfl, Nat.le_of_ble_eq_true rfl⟩) (roV (fr_mid [] [] hP) hK 5 0 rfl rfl) rfl rfl hl.1 rfl (lv_room (Nat.le_of_ble_eq_true rfl)) dL_isConfiguration_2 ⟨Nat.zero_le _, Nat.zero_le _⟩) ?_
    have h : some ((if r = 0 then (0 : Int32) else 1), C) = some out := h
    refine lv_if_eq (tgt := 12) hx hb dL_isConfiguration_5 (by decide) (fun c0 => ?_) (fun c0 => ?_)
    · rw [if_pos c0] at h
      refine lv_iconst (v := 0) hx hb dL_isConfiguration_12 (by decide) ?_
      refine W.widen (k := 1) (n := 6) (Nat.le_of_ble_eq_true rfl) (Nat.le_of_ble_eq_true rfl) ?_
      exact W.iret (v := 0) hx hb hr (fun t ht _ => ⟨⟨0, C, rfl, Option.some.inj h, by show va_P G.1 vwCl (CW G q C) t.heap; rw [ht]; exact hP⟩, hS.F ht⟩) hS.2.2 dL_isConfiguration_13 hlocks
    · rw [if_neg c0] at h
      refine lv_iconst (v := 1) hx hb dL_isConfiguration_8 (by decide) ?_
      refine lv_goto (tgt := 13) hx hb dL_isConfiguration_9 (by decide) ?_
      refine W.widen (k := 1) (n := 6) (Nat.le_of_ble_eq_true rfl) (Nat.le_of_ble_eq_true rfl) ?_
      exact W.iret (v := 1) hx hb hr (fun t ht _ => ⟨⟨1, C, rfl, Option.some.inj h, by show va_P G.1 vwCl (CW G q C) t.heap; rw [ht]; exact hP⟩, hS.F ht⟩) hS.2.2 dL_isConfiguration_13 hlocks
