def rmX6_addRule : Room := { frames := 18, cells := 0, slots := 0, locals := 454 }

theorem in_wsX6_addRule_X6 : ∀ w ∈ u_ws RX6 TX6 7, w ∈ wsX6_addRule := by decide +kernel

theorem in_wsX6_addRule_X3 : ∀ w ∈ u_ws RX3 TX3 5, w ∈ wsX6_addRule := by decide +kernel

set_option maxHeartbeats 4000000 in
set_option maxRecDepth 100000 in
theorem kX6_addRule (l : Launch) (G : GT) (q : Nat → Nat) (C : St) (sz : Nat) (x1 : Int32) (x2 : Int32) (x3 : Int32) (r : Int32 × St) (h : pX6_addRule C x1 x2 x3 = some (.inr r)) : Met l yX6_addRule wsX6_addRule rmX6_addRule (va_Pc [.ref (q 0), .int x1, .int x2, .int x3] (wrP G (CW G q C) sz)) (va_Qi (fun v u => (v, u) = r) (fun u t => va_P G.1 vwCl (CW G q u) t.heap) (va_A (CW G q C) sz)) 0 0 (va_A (CW G q C) sz) := by
  refine Met.ofW (cc := cX6_addRule) (maxL := 5) (ret := (some .int)) (by decide) rfl ?_
  intro p e s m args below meth c s₁ B hml hv
  obtain ⟨rfl, hsz, hP, hK, hD0⟩ := hv
  have bx := bx_of B hml
  subst hsz
  have hD := hD0.self (sz := s.heap.size)
  generalize hAe : va_A (CW G q C) s.heap.size = A at hD ⊢
  have hA : ∀ q : Nat, s.heap.size ≤ q → A q := fun q h => by rw [← hAe]; exact Or.inr h
  have hS : va_S A s.heap s.heap [] := va_S.rf
  obtain ⟨hx, hb, hr, hts, hown, hml, hlocks⟩ := id bx
  have hl := lv_entry ([.ref (q 0), .int x1, .int x2, .int x3]) (n := 5) (Nat.le_of_ble_eq_true rfl)
  rw [lg_entry_eq]
  generalize (lg_sl ([.ref (q 0), .int x1, .int x2, .int x3]) ++ List.replicate (5 - (lg_sl ([.ref (q 0), .int x1, .int x2, .int x3])).length) Slot.unset).toArray = ls at hl ⊢
  have hl : lv_has ls 5 [(0, .ref (q 0)), (1, .int x1), (2, .int x2), (3, .int x3)] := hl
  show W p l e rmX6_addRule s m _ below meth c s.heap [] 0 0 (MQi G (CW G q) A s _ below r) (F0 m 0 ls [])
  unfold pX6_addRule at h
  refine lv_aload_n hx hb dX6_addRule_0 rfl (lv_at hl 0 rfl) ?_
  refine va_get (D := G.1) (ci := 5) (v := .ref (q 2)) (C := RX6) (T := TX6) (N := 7) hx hb hts in_wsX6_addRule_X6 hown hK.1 hP 0 rfl rfl 1 (by decide) (w_mem hts 5 rfl) (fun _ h9 => h9) rfl dX6_addRule_1 ?_
  refine va_getN (D := G.1) (ci := 3) (v := .int (C.1 5)) (C := RX3) (T := TX3) (N := 5) hx hb hts in_wsX6_addRule_X3 hown hK.1 hP 2 rfl rfl 4 (by decide) (hK.2.at 28 rfl) (fun _ h9 => h9) rfl dX6_addRule_4 ?_
  refine lv_bipush (v := 20) hx hb dX6_addRule_7 (by decide) ?_
  refine lv_icmp_lt (tgt := 23) hx hb dX6_addRule_9 (by decide) (fun c_9 => ?_) (fun c_9 => ?_)
  · have h := br_T h c_9
    refine lv_aload_n hx hb dX6_addRule_23 rfl (lv_at hl 0 rfl) ?_
    refine va_get (D := G.1) (ci := 5) (v := .ref (q 2)) (C := RX6) (T := TX6) (N := 7) hx hb hts in_wsX6_addRule_X6 hown hK.1 hP 0 rfl rfl 1 (by decide) (w_mem hts 5 rfl) (fun _ h9 => h9) rfl dX6_addRule_24 ?_
    refine lv_iload_n hx hb dX6_addRule_27 rfl (lv_at hl 1 rfl) ?_
    refine lv_iload_n hx hb dX6_addRule_28 rfl (lv_at hl 2 rfl) ?_
    refine lv_iload_n hx hb dX6_addRule_29 rfl (lv_at hl 3 rfl) ?_
    obtain ⟨u_1, hu_1, h⟩ := bd_ex h
    refine wr_i (Wd := CW G q) (va_runVN (As := [.int x1, .int x2, .int x3]) (rest := []) ⟨hx, hb, hml, hown, hts⟩ (kX3_append l G q C _ x1 x2 x3 u_1 hu_1) ⟨va_cnB 3 hts gX6_addRule_X3_append_n285 rfl rfl rfl (hK.2.nw 12 rfl) (w_mem hts 7 rfl) (by decide +kernel) ⟨Nat.le_of_ble_eq_true rfl, Nat.le_of_ble_eq_true rfl⟩, (w_mem hts 6 rfl), (w_mem hts 8 rfl)⟩ (wrV hP hD hK 3 2 rfl rfl) rfl rfl hl.1 rfl (lv_room (Nat.le_of_ble_eq_true rfl)) dX6_addRule_30 ⟨Nat.zero_le _, Nat.zero_le _⟩) hD hS hA (fun _ => rfl) (fun H locs hP hD hS => ?_)
    refine lv_topi (fun v_2 ev_2 => ?_)
    have h := ltv_at h v_2 ev_2
    refine lv_istore (lv' := [(4, .int v_2), (0, .ref (q 0)), (1, .int x1), (2, .int x2), (3, .int x3)]) hx hb dX6_addRule_33 hl (by decide) rfl (fun ls hl => ?_)
    refine lv_aload_n hx hb dX6_addRule_35 rfl (lv_at hl 1 rfl) ?_
    obtain ⟨r_3, hr_3, h⟩ := bd_ex h
    refine ro_i (va_runV (As := []) (rest := []) ⟨hx, hb, hml, hown, hts⟩ (kX6_hasCompletion l G q u_1.2 r_3 hr_3) (cwV 0 hts gX6_addRule_X6_hasCompletion rfl rfl rfl (by decide +kernel) ⟨Nat.le_of_ble_eq_true rfl, Nat.le_of_ble_eq_true rfl⟩) (roV hP hK 5 0 rfl rfl) rfl rfl hl.1 rfl (lv_room (Nat.le_of_ble_eq_true rfl)) dX6_addRule_36 ⟨Nat.zero_le _, Nat.zero_le _⟩) ?_
    refine lv_if_ne (tgt := 59) hx hb dX6_addRule_39 (by decide) (fun c_39 => ?_) (fun c_39 => ?_)
    · have h := br_F h c_39
      refine lv_iload hx hb dX6_addRule_59 (lv_at hl 0 rfl) ?_
      exact MQi.end hx hb hr hlocks hP hS dX6_addRule_61 rfl (nn_ h)
    · have h := br_T h c_39
      refine lv_aload_n hx hb dX6_addRule_42 rfl (lv_at hl 1 rfl) ?_
      refine va_get (D := G.1) (ci := 5) (v := .ref (q 2)) (C := RX6) (T := TX6) (N := 7) hx hb hts in_wsX6_addRule_X6 hown hK.1 hP 0 rfl rfl 1 (by decide) (w_mem hts 5 rfl) (fun _ h9 => h9) rfl dX6_addRule_43 ?_
      obtain ⟨u_4, hu_4, h⟩ := bd_ex h
      refine wr_v (Wd := CW G q) (va_runVN (As := []) (rest := []) ⟨hx, hb, hml, hown, hts⟩ (kX3_dropLast l G q u_1.2 _ u_4 hu_4) ⟨va_cnB 0 hK.2.all gN_X3_dropLast rfl rfl rfl (hK.2.nw 13 rfl) (w_mem hts 7 rfl) (by decide +kernel) ⟨Nat.le_of_ble_eq_true rfl, Nat.le_of_ble_eq_true rfl⟩, (w_mem hK.2.all 53 rfl), (w_mem hK.2.all 54 rfl)⟩ (wrV hP hD hK 3 2 rfl rfl) rfl rfl hl.1 rfl (lv_room (Nat.le_of_ble_eq_true rfl)) dX6_addRule_46 ⟨Nat.zero_le _, Nat.zero_le _⟩) hD hS hA (fun _ => rfl) (fun H locs hP hD hS => ?_)
      cases h
  · have h := br_F h c_9
    cases h

def rxX6_addRule : Room := { frames := 18, cells := 1, slots := 6, locals := 454 }

set_option maxHeartbeats 4000000 in
set_option maxRecDepth 100000 in
theorem xX6_addRule (l : Launch) (hl0 : l.stackTraces = false) (G : GT) (q : Nat → Nat) (C : St) (sz : Nat) (x1 : Int32) (x2 : Int32) (x3 : Int32) (r : Nat × St) (h : pX6_addRule C x1 x2 x3 = some (.inl r)) : vx_Met l yX6_addRule wsX6_addRule rxX6_addRule (va_Pc [.ref (q 0), .int x1, .int x2, .int x3] (xP G (CW G q C) sz)) (fun _ _ _ _ => False) (XCf G (CW G q) (va_A (CW G q C) sz) r) 1 6 (va_A (CW G q C) sz) := by
  refine vx_ofW (cc := cX6_addRule) (maxL := 5) (ret := (some .int)) (by decide) rfl ?_
  intro p e s m args below meth c s₁ B hml hex hv
  obtain ⟨rfl, ⟨hsz, hP, hK, hD0⟩, hE⟩ := hv
  have bx := bx_of B hml
  subst hsz
  have hD := hD0.self (sz := s.heap.size)
  generalize hAe : va_A (CW G q C) s.heap.size = A at hD hE ⊢
  have hA : ∀ q : Nat, s.heap.size ≤ q → A q := fun q h => by rw [← hAe]; exact Or.inr h
  have hS : va_S A s.heap s.heap [] := va_S.rf
  obtain ⟨hx, hb, hr, hts, hown, hml, hlocks⟩ := id bx
  have hl := lv_entry ([.ref (q 0), .int x1, .int x2, .int x3]) (n := 5) (Nat.le_of_ble_eq_true rfl)
  rw [lg_entry_eq]
  generalize (lg_sl ([.ref (q 0), .int x1, .int x2, .int x3]) ++ List.replicate (5 - (lg_sl ([.ref (q 0), .int x1, .int x2, .int x3])).length) Slot.unset).toArray = ls at hl ⊢
  have hl : lv_has ls 5 [(0, .ref (q 0)), (1, .int x1), (2, .int x2), (3, .int x3)] := hl
  show W p l e rxX6_addRule s m _ below meth c s.heap [] 0 0 (MQx G (CW G q) A s _ below r) (F0 m 0 ls [])
  unfold pX6_addRule at h
  refine lv_aload_n hx hb dX6_addRule_0 rfl (lv_at hl 0 rfl) ?_
  refine va_get (D := G.1) (ci := 5) (v := .ref (q 2)) (C := RX6) (T := TX6) (N := 7) hx hb hts in_wsX6_addRule_X6 hown hK.1 hP 0 rfl rfl 1 (by decide) (w_mem hts 5 rfl) (fun _ h9 => h9) rfl dX6_addRule_1 ?_
  refine va_getN (D := G.1) (ci := 3) (v := .int (C.1 5)) (C := RX3) (T := TX3) (N := 5) hx hb hts in_wsX6_addRule_X3 hown hK.1 hP 2 rfl rfl 4 (by decide) (hK.2.at 28 rfl) (fun _ h9 => h9) rfl dX6_addRule_4 ?_
  refine lv_bipush (v := 20) hx hb dX6_addRule_7 (by decide) ?_
  refine lv_icmp_lt (tgt := 23) hx hb dX6_addRule_9 (by decide) (fun c_9 => ?_) (fun c_9 => ?_)
  · have h := br_T h c_9
    refine lv_aload_n hx hb dX6_addRule_23 rfl (lv_at hl 0 rfl) ?_
    refine va_get (D := G.1) (ci := 5) (v := .ref (q 2)) (C := RX6) (T := TX6) (N := 7) hx hb hts in_wsX6_addRule_X6 hown hK.1 hP 0 rfl rfl 1 (by decide) (w_mem hts 5 rfl) (fun _ h9 => h9) rfl dX6_addRule_24 ?_
    refine lv_iload_n hx hb dX6_addRule_27 rfl (lv_at hl 1 rfl) ?_
    refine lv_iload_n hx hb dX6_addRule_28 rfl (lv_at hl 2 rfl) ?_
    refine lv_iload_n hx hb dX6_addRule_29 rfl (lv_at hl 3 rfl) ?_
    obtain ⟨u_1, hu_1, h⟩ := bd_ex h
    refine wr_i (Wd := CW G q) (va_runVN (As := [.int x1, .int x2, .int x3]) (rest := []) ⟨hx, hb, hml, hown, hts⟩ (kX3_append l G q C _ x1 x2 x3 u_1 hu_1) ⟨va_cnB 3 hts gX6_addRule_X3_append_n285 rfl rfl rfl (hK.2.nw 12 rfl) (w_mem hts 7 rfl) (by decide +kernel) ⟨Nat.le_of_ble_eq_true rfl, Nat.le_of_ble_eq_true rfl⟩, (w_mem hts 6 rfl), (w_mem hts 8 rfl)⟩ (wrV hP hD hK 3 2 rfl rfl) rfl rfl hl.1 rfl (lv_room (Nat.le_of_ble_eq_true rfl)) dX6_addRule_30 ⟨Nat.zero_le _, Nat.zero_le _⟩) hD hS hA (fun _ => rfl) (fun H locs hP hD hS => ?_)
    refine lv_topi (fun v_2 ev_2 => ?_)
    have h := ltv_at h v_2 ev_2
    refine lv_istore (lv' := [(4, .int v_2), (0, .ref (q 0)), (1, .int x1), (2, .int x2), (3, .int x3)]) hx hb dX6_addRule_33 hl (by decide) rfl (fun ls hl => ?_)
    refine lv_aload_n hx hb dX6_addRule_35 rfl (lv_at hl 1 rfl) ?_
    obtain ⟨r_3, hr_3, h⟩ := bd_ex h
    refine ro_i (va_runV (As := []) (rest := []) ⟨hx, hb, hml, hown, hts⟩ (kX6_hasCompletion l G q u_1.2 r_3 hr_3) (cwV 0 hts gX6_addRule_X6_hasCompletion rfl rfl rfl (by decide +kernel) ⟨Nat.le_of_ble_eq_true rfl, Nat.le_of_ble_eq_true rfl⟩) (roV hP hK 5 0 rfl rfl) rfl rfl hl.1 rfl (lv_room (Nat.le_of_ble_eq_true rfl)) dX6_addRule_36 ⟨Nat.zero_le _, Nat.zero_le _⟩) ?_
    refine lv_if_ne (tgt := 59) hx hb dX6_addRule_39 (by decide) (fun c_39 => ?_) (fun c_39 => ?_)
    · have h := br_F h c_39
      refine lv_iload hx hb dX6_addRule_59 (lv_at hl 0 rfl) ?_
      cases h
    · have h := br_T h c_39
      refine lv_aload_n hx hb dX6_addRule_42 rfl (lv_at hl 1 rfl) ?_
      refine va_get (D := G.1) (ci := 5) (v := .ref (q 2)) (C := RX6) (T := TX6) (N := 7) hx hb hts in_wsX6_addRule_X6 hown hK.1 hP 0 rfl rfl 1 (by decide) (w_mem hts 5 rfl) (fun _ h9 => h9) rfl dX6_addRule_43 ?_
      obtain ⟨u_4, hu_4, h⟩ := bd_ex h
      refine wr_v (Wd := CW G q) (va_runVN (As := []) (rest := []) ⟨hx, hb, hml, hown, hts⟩ (kX3_dropLast l G q u_1.2 _ u_4 hu_4) ⟨va_cnB 0 hK.2.all gN_X3_dropLast rfl rfl rfl (hK.2.nw 13 rfl) (w_mem hts 7 rfl) (by decide +kernel) ⟨Nat.le_of_ble_eq_true rfl, Nat.le_of_ble_eq_true rfl⟩, (w_mem hK.2.all 53 rfl), (w_mem hK.2.all 54 rfl)⟩ (wrV hP hD hK 3 2 rfl rfl) rfl rfl hl.1 rfl (lv_room (Nat.le_of_ble_eq_true rfl)) dX6_addRule_46 ⟨Nat.zero_le _, Nat.zero_le _⟩) hD hS hA (fun _ => rfl) (fun H locs hP hD hS => ?_)
      exact x_throwS (Wd := CW G q) (C := u_4) (k := 4) (cls := "java/lang/UnsupportedOperationException") (text := "there would be no completion") hx hb hl0 hts hown hml hlocks hex hK hE hP hS hl (by decide +kernel) (w_mem hts 3 rfl) (w_mem hts 4 rfl) (List.mem_of_getElem? (i := 2) rfl) (fun w h => List.mem_cons_of_mem _ (List.mem_append_right _ h)) xB_86 xG_86_82 dX6_addRule_49 dX6_addRule_52 dX6_addRule_53 dX6_addRule_55 dX6_addRule_58 ⟨Nat.le_of_ble_eq_true rfl, Nat.le_of_ble_eq_true rfl, Nat.le_of_ble_eq_true rfl, Nat.le_of_ble_eq_true rfl⟩ ((xl_ h).symm) rfl
  · have h := br_F h c_9
    exact x_throwSW (Wd := CW G q) (C := C) (k := 3) (cls := "java/lang/IllegalStateException") (text := "there are 20 rules") hx hb hl0 hts hown hml hlocks hex hK hE hP hS hl (by decide +kernel) (w_mem hts 1 rfl) (w_mem hts 2 rfl) (List.mem_of_getElem? (i := 12) rfl) (fun w h => List.mem_cons_of_mem _ (List.mem_append_left _ (List.mem_append_right _ h))) xB_63 xG_63_59 dX6_addRule_12 dX6_addRule_15 dX6_addRule_16 dX6_addRule_19 dX6_addRule_22 ⟨Nat.le_of_ble_eq_true rfl, Nat.le_of_ble_eq_true rfl, Nat.le_of_ble_eq_true rfl, Nat.le_of_ble_eq_true rfl⟩ ((xl_ h).symm) rfl

def rmX6_addFeature : Room := { frames := 1, cells := 0, slots := 0, locals := 22 }

theorem in_wsX6_addFeature_X6 : ∀ w ∈ u_ws RX6 TX6 7, w ∈ wsX6_addFeature := by decide +kernel

theorem in_wsX6_addFeature_X5 : ∀ w ∈ u_ws RX5 TX5 6, w ∈ wsX6_addFeature := by decide +kernel

set_option maxHeartbeats 4000000 in
set_option maxRecDepth 100000 in
theorem wX6_addFeature_16 {p : Program} {l : Launch} {e : Env} {s : State} {m : MethodId} {args : Array Value} {below : List Frame} {meth : Method} {c : Code} {G : GT} {q : Nat → Nat} {A : Nat → Prop} {out : Int32 × St} (bx : BX p RX6 wsX6_addFeature cX6_addFeature 4 (some .int) s m args meth c) (hA : ∀ q : Nat, s.heap.size ≤ q → A q) (hK : CK G s) (C : St) (h : pX6_addFeature_16 C = some (.inr out)) {H : Heap} {locs : List Loc} (hP : va_P G.1 vwCl (CW G q C) H) (hD : va_D A (CW G q C)) (hS : va_S A s.heap H locs) (ls : Array Slot) (hl : lv_has ls 4 []) : W p l e rmX6_addFeature s m args below meth c H locs 0 0 (MQi G (CW G q) A s args below out) (F0 m 16 ls []) := by
  obtain ⟨hx, hb, hr, hts, hown, hml, hlocks⟩ := id bx
  unfold pX6_addFeature_16 at h
  cases h

set_option maxHeartbeats 4000000 in
set_option maxRecDepth 100000 in
theorem kX6_addFeature (l : Launch) (G : GT) (q : Nat → Nat) (C : St) (sz : Nat) (x1 : Int32) (x2 : Int32) (r : Int32 × St) (h : pX6_addFeature C x1 x2 = some (.inr r)) : Met l yX6_addFeature wsX6_addFeature rmX6_addFeature (va_Pc [.ref (q 0), .int x1, .int x2] (wrP G (CW G q C) sz)) (va_Qi (fun v u => (v, u) = r) (fun u t => va_P G.1 vwCl (CW G q u) t.heap) (va_A (CW G q C) sz)) 0 0 (va_A (CW G q C) sz) := by
  refine Met.ofW (cc := cX6_addFeature) (maxL := 4) (ret := (some .int)) (by decide) rfl ?_
  intro p e s m args below meth c s₁ B hml hv
  obtain ⟨rfl, hsz, hP, hK, hD0⟩ := hv
  have bx := bx_of B hml
  subst hsz
  have hD := hD0.self (sz := s.heap.size)
  generalize hAe : va_A (CW G q C) s.heap.size = A at hD ⊢
  have hA : ∀ q : Nat, s.heap.size ≤ q → A q := fun q h => by rw [← hAe]; exact Or.inr h
  have hS : va_S A s.heap s.heap [] := va_S.rf
  obtain ⟨hx, hb, hr, hts, hown, hml, hlocks⟩ := id bx
  have hl := lv_entry ([.ref (q 0), .int x1, .int x2]) (n := 4) (Nat.le_of_ble_eq_true rfl)
  rw [lg_entry_eq]
  generalize (lg_sl ([.ref (q 0), .int x1, .int x2]) ++ List.replicate (4 - (lg_sl ([.ref (q 0), .int x1, .int x2])).length) Slot.unset).toArray = ls at hl ⊢
  have hl : lv_has ls 4 [(0, .ref (q 0)), (1, .int x1), (2, .int x2)] := hl
  show W p l e rmX6_addFeature s m _ below meth c s.heap [] 0 0 (MQi G (CW G q) A s _ below r) (F0 m 0 ls [])
  unfold pX6_addFeature at h
  refine lv_aload_n hx hb dX6_addFeature_0 rfl (lv_at hl 0 rfl) ?_
  refine lv_iload_n hx hb dX6_addFeature_1 rfl (lv_at hl 1 rfl) ?_
  obtain ⟨r_1, hr_1, h⟩ := tb_N h
  refine ro_v (va_runV (As := [.int x1]) (rest := []) ⟨hx, hb, hml, hown, hts⟩ (kX6_checkFeature l G q C x1 r_1 hr_1) (cwV 1 hts gX6_addFeature_X6_checkFeature rfl rfl rfl (by decide +kernel) ⟨Nat.le_of_ble_eq_true rfl, Nat.le_of_ble_eq_true rfl⟩) (roV hP hK 5 0 rfl rfl) rfl rfl hl.1 rfl (lv_room (Nat.le_of_ble_eq_true rfl)) dX6_addFeature_2 ⟨Nat.zero_le _, Nat.zero_le _⟩) ?_
  refine lv_iload_n hx hb dX6_addFeature_5 rfl (lv_at hl 2 rfl) ?_
  refine lv_if_lt (tgt := 16) hx hb dX6_addFeature_6 (by decide) (fun c_6 => ?_) (fun c_6 => ?_)
  · have h := br_T h c_6
    exact wX6_addFeature_16 bx hA hK C h hP hD hS _ (lv_sub hl [] rfl)
  · have h := br_F h c_6
    refine lv_iload_n hx hb dX6_addFeature_9 rfl (lv_at hl 2 rfl) ?_
    refine lv_sipush (v := 999) hx hb dX6_addFeature_10 (by decide) ?_
    refine lv_icmp_le (tgt := 26) hx hb dX6_addFeature_13 (by decide) (fun c_13 => ?_) (fun c_13 => ?_)
    · have h := br_T h c_13
      refine lv_aload_n hx hb dX6_addFeature_26 rfl (lv_at hl 0 rfl) ?_
      refine va_get (D := G.1) (ci := 5) (v := .ref (q 1)) (C := RX6) (T := TX6) (N := 7) hx hb hts in_wsX6_addFeature_X6 hown hK.1 hP 0 rfl rfl 0 (by decide) (w_mem hts 5 rfl) (fun _ h9 => h9) rfl dX6_addFeature_27 ?_
      refine va_getN (D := G.1) (ci := 4) (v := .int (C.1 3)) (C := RX5) (T := TX5) (N := 6) hx hb hts in_wsX6_addFeature_X5 hown hK.1 hP 1 rfl rfl 5 (by decide) (hK.2.at 23 rfl) (fun _ h9 => h9) rfl dX6_addFeature_30 ?_
      refine lv_bipush (v := 12) hx hb dX6_addFeature_33 (by decide) ?_
      refine lv_icmp_lt (tgt := 48) hx hb dX6_addFeature_35 (by decide) (fun c_35 => ?_) (fun c_35 => ?_)
      · have h := br_T h c_35
        refine lv_aload_n hx hb dX6_addFeature_48 rfl (lv_at hl 0 rfl) ?_
        refine va_get (D := G.1) (ci := 5) (v := .ref (q 1)) (C := RX6) (T := TX6) (N := 7) hx hb hts in_wsX6_addFeature_X6 hown hK.1 hP 0 rfl rfl 0 (by decide) (w_mem hts 5 rfl) (fun _ h9 => h9) rfl dX6_addFeature_49 ?_
        refine lv_iload_n hx hb dX6_addFeature_52 rfl (lv_at hl 1 rfl) ?_
        obtain ⟨u_2, hu_2, h⟩ := bd_ex h
        refine wr_i (Wd := CW G q) (va_runVN (As := [.int x1]) (rest := []) ⟨hx, hb, hml, hown, hts⟩ (kX5_grow l G q C _ x1 u_2 hu_2) ⟨va_cnB 1 hts gX6_addFeature_X5_grow_n64 rfl rfl rfl (hK.2.nw 5 rfl) (w_mem hts 15 rfl) (by decide +kernel) ⟨Nat.le_of_ble_eq_true rfl, Nat.le_of_ble_eq_true rfl⟩, (w_mem hts 14 rfl), (w_mem hts 16 rfl)⟩ (wrV hP hD hK 4 1 rfl rfl) rfl rfl hl.1 rfl (lv_room (Nat.le_of_ble_eq_true rfl)) dX6_addFeature_53 ⟨Nat.zero_le _, Nat.zero_le _⟩) hD hS hA (fun _ => rfl) (fun H locs hP hD hS => ?_)
        refine lv_topi (fun v_3 ev_3 => ?_)
        have h := ltv_at h v_3 ev_3
        refine lv_istore_n (lv' := [(3, .int v_3), (0, .ref (q 0)), (1, .int x1), (2, .int x2)]) hx hb dX6_addFeature_56 rfl hl (by decide) rfl (fun ls hl => ?_)
        refine lv_aload_n hx hb dX6_addFeature_57 rfl (lv_at hl 1 rfl) ?_
        refine va_get (D := G.1) (ci := 5) (v := .ref (q 3)) (C := RX6) (T := TX6) (N := 7) hx hb hts in_wsX6_addFeature_X6 hown hK.1 hP 0 rfl rfl 2 (by decide) (w_mem hts 6 rfl) (fun _ h9 => h9) rfl dX6_addFeature_58 ?_
        refine lv_iload_n hx hb dX6_addFeature_61 rfl (lv_at hl 0 rfl) ?_
        refine lv_iload_n hx hb dX6_addFeature_62 rfl (lv_at hl 3 rfl) ?_
        obtain ⟨u_4, hu_4, h⟩ := bd_ex h
        refine wr_v (Wd := CW G q) (va_runVN (As := [.int v_3, .int x2]) (rest := []) ⟨hx, hb, hml, hown, hts⟩ (kX2_setFirst l G q u_2.2 _ v_3 x2 u_4 hu_4) ⟨va_cnB 2 hts gX6_addFeature_X2_setFirst_n68 rfl rfl rfl (hK.2.nw 6 rfl) (w_mem hts 23 rfl) (by decide +kernel) ⟨Nat.le_of_ble_eq_true rfl, Nat.le_of_ble_eq_true rfl⟩, (w_mem hts 22 rfl), (w_mem hts 24 rfl)⟩ (wrV hP hD hK 2 3 rfl rfl) rfl rfl hl.1 rfl (lv_room (Nat.le_of_ble_eq_true rfl)) dX6_addFeature_63 ⟨Nat.zero_le _, Nat.zero_le _⟩) hD hS hA (fun _ => rfl) (fun H locs hP hD hS => ?_)
        refine lv_iload_n hx hb dX6_addFeature_66 rfl (lv_at hl 0 rfl) ?_
        exact MQi.end hx hb hr hlocks hP hS dX6_addFeature_67 rfl (nn_ h)
      · have h := br_F h c_35
        cases h
    · have h := br_F h c_13
      exact wX6_addFeature_16 bx hA hK C h hP hD hS _ (lv_sub hl [] rfl)

def rxX6_addFeature : Room := { frames := 7, cells := 1, slots := 6, locals := 121 }

set_option maxHeartbeats 4000000 in
set_option maxRecDepth 100000 in
theorem xX6_addFeature_16 {p : Program} {l : Launch} {e : Env} {s : State} {m : MethodId} {args : Array Value} {below : List Frame} {meth : Method} {c : Code} {G : GT} {q : Nat → Nat} {A : Nat → Prop} {out : Nat × St} (bx : BX p RX6 wsX6_addFeature cX6_addFeature 4 (some .int) s m args meth c) (hA : ∀ q : Nat, s.heap.size ≤ q → A q) (hK : CK G s) (hl0 : l.stackTraces = false) (hE : XE A s) (hex : ∀ x ∈ c.exceptionTable.toList, False) (C : St) (h : pX6_addFeature_16 C = some (.inl out)) {H : Heap} {locs : List Loc} (hP : va_P G.1 vwCl (CW G q C) H) (hD : va_D A (CW G q C)) (hS : va_S A s.heap H locs) (ls : Array Slot) (hl : lv_has ls 4 []) : W p l e rxX6_addFeature s m args below meth c H locs 0 0 (MQx G (CW G q) A s args below out) (F0 m 16 ls []) := by
  obtain ⟨hx, hb, hr, hts, hown, hml, hlocks⟩ := id bx
  unfold pX6_addFeature_16 at h
  exact x_throwS (Wd := CW G q) (C := C) (k := 2) (cls := "java/lang/IllegalArgumentException") (text := "the price is out of range") hx hb hl0 hts hown hml hlocks hex hK hE hP hS hl (by decide +kernel) (w_mem hts 1 rfl) (w_mem hts 2 rfl) (List.mem_of_getElem? (i := 0) rfl) (fun w h => List.mem_cons_of_mem _ (List.mem_append_left _ (List.mem_append_left _ (List.mem_append_right _ h)))) xB_52 xG_52_48 dX6_addFeature_16 dX6_addFeature_19 dX6_addFeature_20 dX6_addFeature_22 dX6_addFeature_25 ⟨Nat.le_of_ble_eq_true rfl, Nat.le_of_ble_eq_true rfl, Nat.le_of_ble_eq_true rfl, Nat.le_of_ble_eq_true rfl⟩ ((xl_ h).symm) rfl

set_option maxHeartbeats 4000000 in
set_option maxRecDepth 100000 in
theorem xX6_addFeature (l : Launch) (hl0 : l.stackTraces = false) (G : GT) (q : Nat → Nat) (C : St) (sz : Nat) (x1 : Int32) (x2 : Int32) (r : Nat × St) (h : pX6_addFeature C x1 x2 = some (.inl r)) : vx_Met l yX6_addFeature wsX6_addFeature rxX6_addFeature (va_Pc [.ref (q 0), .int x1, .int x2] (xP G (CW G q C) sz)) (fun _ _ _ _ => False) (XCf G (CW G q) (va_A (CW G q C) sz) r) 1 6 (va_A (CW G q C) sz) := by
  refine vx_ofW (cc := cX6_addFeature) (maxL := 4) (ret := (some .int)) (by decide) rfl ?_
  intro p e s m args below meth c s₁ B hml hex hv
  obtain ⟨rfl, ⟨hsz, hP, hK, hD0⟩, hE⟩ := hv
  have bx := bx_of B hml
  subst hsz
  have hD := hD0.self (sz := s.heap.size)
  generalize hAe : va_A (CW G q C) s.heap.size = A at hD hE ⊢
  have hA : ∀ q : Nat, s.heap.size ≤ q → A q := fun q h => by rw [← hAe]; exact Or.inr h
  have hS : va_S A s.heap s.heap [] := va_S.rf
  obtain ⟨hx, hb, hr, hts, hown, hml, hlocks⟩ := id bx
  have hl := lv_entry ([.ref (q 0), .int x1, .int x2]) (n := 4) (Nat.le_of_ble_eq_true rfl)
  rw [lg_entry_eq]
  generalize (lg_sl ([.ref (q 0), .int x1, .int x2]) ++ List.replicate (4 - (lg_sl ([.ref (q 0), .int x1, .int x2])).length) Slot.unset).toArray = ls at hl ⊢
  have hl : lv_has ls 4 [(0, .ref (q 0)), (1, .int x1), (2, .int x2)] := hl
  show W p l e rxX6_addFeature s m _ below meth c s.heap [] 0 0 (MQx G (CW G q) A s _ below r) (F0 m 0 ls [])
  unfold pX6_addFeature at h
  refine lv_aload_n hx hb dX6_addFeature_0 rfl (lv_at hl 0 rfl) ?_
  refine lv_iload_n hx hb dX6_addFeature_1 rfl (lv_at hl 1 rfl) ?_
  rcases tb_X h with ⟨er_1, hr_1, h⟩ | ⟨r_1, hr_1, h⟩
  · exact x_prop (Wd := CW G q) (vx_runV (As := [.int x1]) (rest := []) ⟨hx, hb, hml, hown, hts⟩ (xX6_checkFeature l hl0 G q C _ x1 er_1 hr_1) (cwV 1 hts gX6_addFeature_X6_checkFeature rfl rfl rfl (by decide +kernel) ⟨Nat.le_of_ble_eq_true rfl, Nat.le_of_ble_eq_true rfl⟩) (xV hP hD hS hK hA hE 5 0 rfl rfl) rfl rfl hl.1 rfl (lv_room (Nat.le_of_ble_eq_true rfl)) dX6_addFeature_2 ⟨Nat.le_of_ble_eq_true rfl, Nat.le_of_ble_eq_true rfl⟩) hD hS hA (fun _ => rfl) hex hlocks h
  refine ro_v (va_runV (As := [.int x1]) (rest := []) ⟨hx, hb, hml, hown, hts⟩ (kX6_checkFeature l G q C x1 r_1 hr_1) (cwV 1 hts gX6_addFeature_X6_checkFeature rfl rfl rfl (by decide +kernel) ⟨Nat.le_of_ble_eq_true rfl, Nat.le_of_ble_eq_true rfl⟩) (roV hP hK 5 0 rfl rfl) rfl rfl hl.1 rfl (lv_room (Nat.le_of_ble_eq_true rfl)) dX6_addFeature_2 ⟨Nat.zero_le _, Nat.zero_le _⟩) ?_
  refine lv_iload_n hx hb dX6_addFeature_5 rfl (lv_at hl 2 rfl) ?_
  refine lv_if_lt (tgt := 16) hx hb dX6_addFeature_6 (by decide) (fun c_6 => ?_) (fun c_6 => ?_)
  · have h := br_T h c_6
    exact xX6_addFeature_16 bx hA hK hl0 hE hex C h hP hD hS _ (lv_sub hl [] rfl)
  · have h := br_F h c_6
    refine lv_iload_n hx hb dX6_addFeature_9 rfl (lv_at hl 2 rfl) ?_
    refine lv_sipush (v := 999) hx hb dX6_addFeature_10 (by decide) ?_
    refine lv_icmp_le (tgt := 26) hx hb dX6_addFeature_13 (by decide) (fun c_13 => ?_) (fun c_13 => ?_)
    · have h := br_T h c_13
      refine lv_aload_n hx hb dX6_addFeature_26 rfl (lv_at hl 0 rfl) ?_
      refine va_get (D := G.1) (ci := 5) (v := .ref (q 1)) (C := RX6) (T := TX6) (N := 7) hx hb hts in_wsX6_addFeature_X6 hown hK.1 hP 0 rfl rfl 0 (by decide) (w_mem hts 5 rfl) (fun _ h9 => h9) rfl dX6_addFeature_27 ?_
      refine va_getN (D := G.1) (ci := 4) (v := .int (C.1 3)) (C := RX5) (T := TX5) (N := 6) hx hb hts in_wsX6_addFeature_X5 hown hK.1 hP 1 rfl rfl 5 (by decide) (hK.2.at 23 rfl) (fun _ h9 => h9) rfl dX6_addFeature_30 ?_
      refine lv_bipush (v := 12) hx hb dX6_addFeature_33 (by decide) ?_
      refine lv_icmp_lt (tgt := 48) hx hb dX6_addFeature_35 (by decide) (fun c_35 => ?_) (fun c_35 => ?_)
      · have h := br_T h c_35
        refine lv_aload_n hx hb dX6_addFeature_48 rfl (lv_at hl 0 rfl) ?_
        refine va_get (D := G.1) (ci := 5) (v := .ref (q 1)) (C := RX6) (T := TX6) (N := 7) hx hb hts in_wsX6_addFeature_X6 hown hK.1 hP 0 rfl rfl 0 (by decide) (w_mem hts 5 rfl) (fun _ h9 => h9) rfl dX6_addFeature_49 ?_
        refine lv_iload_n hx hb dX6_addFeature_52 rfl (lv_at hl 1 rfl) ?_
        obtain ⟨u_2, hu_2, h⟩ := bd_ex h
        refine wr_i (Wd := CW G q) (va_runVN (As := [.int x1]) (rest := []) ⟨hx, hb, hml, hown, hts⟩ (kX5_grow l G q C _ x1 u_2 hu_2) ⟨va_cnB 1 hts gX6_addFeature_X5_grow_n64 rfl rfl rfl (hK.2.nw 5 rfl) (w_mem hts 15 rfl) (by decide +kernel) ⟨Nat.le_of_ble_eq_true rfl, Nat.le_of_ble_eq_true rfl⟩, (w_mem hts 14 rfl), (w_mem hts 16 rfl)⟩ (wrV hP hD hK 4 1 rfl rfl) rfl rfl hl.1 rfl (lv_room (Nat.le_of_ble_eq_true rfl)) dX6_addFeature_53 ⟨Nat.zero_le _, Nat.zero_le _⟩) hD hS hA (fun _ => rfl) (fun H locs hP hD hS => ?_)
        refine lv_topi (fun v_3 ev_3 => ?_)
        have h := ltv_at h v_3 ev_3
        refine lv_istore_n (lv' := [(3, .int v_3), (0, .ref (q 0)), (1, .int x1), (2, .int x2)]) hx hb dX6_addFeature_56 rfl hl (by decide) rfl (fun ls hl => ?_)
        refine lv_aload_n hx hb dX6_addFeature_57 rfl (lv_at hl 1 rfl) ?_
        refine va_get (D := G.1) (ci := 5) (v := .ref (q 3)) (C := RX6) (T := TX6) (N := 7) hx hb hts in_wsX6_addFeature_X6 hown hK.1 hP 0 rfl rfl 2 (by decide) (w_mem hts 6 rfl) (fun _ h9 => h9) rfl dX6_addFeature_58 ?_
        refine lv_iload_n hx hb dX6_addFeature_61 rfl (lv_at hl 0 rfl) ?_
        refine lv_iload_n hx hb dX6_addFeature_62 rfl (lv_at hl 3 rfl) ?_
        obtain ⟨u_4, hu_4, h⟩ := bd_ex h
        refine wr_v (Wd := CW G q) (va_runVN (As := [.int v_3, .int x2]) (rest := []) ⟨hx, hb, hml, hown, hts⟩ (kX2_setFirst l G q u_2.2 _ v_3 x2 u_4 hu_4) ⟨va_cnB 2 hts gX6_addFeature_X2_setFirst_n68 rfl rfl rfl (hK.2.nw 6 rfl) (w_mem hts 23 rfl) (by decide +kernel) ⟨Nat.le_of_ble_eq_true rfl, Nat.le_of_ble_eq_true rfl⟩, (w_mem hts 22 rfl), (w_mem hts 24 rfl)⟩ (wrV hP hD hK 2 3 rfl rfl) rfl rfl hl.1 rfl (lv_room (Nat.le_of_ble_eq_true rfl)) dX6_addFeature_63 ⟨Nat.zero_le _, Nat.zero_le _⟩) hD hS hA (fun _ => rfl) (fun H locs hP hD hS => ?_)
        refine lv_iload_n hx hb dX6_addFeature_66 rfl (lv_at hl 0 rfl) ?_
        cases h
      · have h := br_F h c_35
        exact x_throwS (Wd := CW G q) (C := C) (k := 3) (cls := "java/lang/IllegalStateException") (text := "there are 12 features") hx hb hl0 hts hown hml hlocks hex hK hE hP hS hl (by decide +kernel) (w_mem hts 3 rfl) (w_mem hts 4 rfl) (List.mem_of_getElem? (i := 1) rfl) (fun w h => List.mem_cons_of_mem _ (List.mem_append_left _ (List.mem_append_right _ h))) xB_63 xG_63_59 dX6_addFeature_38 dX6_addFeature_41 dX6_addFeature_42 dX6_addFeature_44 dX6_addFeature_47 ⟨Nat.le_of_ble_eq_true rfl, Nat.le_of_ble_eq_true rfl, Nat.le_of_ble_eq_true rfl, Nat.le_of_ble_eq_true rfl⟩ ((xl_ h).symm) rfl
    · have h := br_F h c_13
      exact xX6_addFeature_16 bx hA hK hl0 hE hex C h hP hD hS _ (lv_sub hl [] rfl)

def rmX6_setMandatory : Room := { frames := 18, cells := 0, slots := 0, locals := 454 }

theorem in_wsX6_setMandatory_X6 : ∀ w ∈ u_ws RX6 TX6 7, w ∈ wsX6_setMandatory := by decide +kernel

theorem in_wsX6_setMandatory_X5 : ∀ w ∈ u_ws RX5 TX5 6, w ∈ wsX6_setMandatory := by decide +kernel

set_option maxHeartbeats 4000000 in
set_option maxRecDepth 100000 in
theorem wX6_setMandatory_44 {p : Program} {l : Launch} {e : Env} {s : State} {m : MethodId} {args : Array Value} {below : List Frame} {meth : Method} {c : Code} {G : GT} {q : Nat → Nat} {A : Nat → Prop} {out : Int32 × St} (bx : BX p RX6 wsX6_setMandatory cX6_setMandatory 5 (some .boolean) s m args meth c) (hA : ∀ q : Nat, s.heap.size ≤ q → A q) (hK : CK G s) (C : St) (x1 : Int32) (x3 : Int32) (t1 : Int32) (h : pX6_setMandatory_44 C x1 x3 t1 = some (.inr out)) {H : Heap} {locs : List Loc} (hP : va_P G.1 vwCl (CW G q C) H) (hD : va_D A (CW G q C)) (hS : va_S A s.heap H locs) (ls : Array Slot) (hl : lv_has ls 5 [(0, .ref (q 0)), (1, .int x1), (3, .int x3)]) : W p l e rmX6_setMandatory s m args below meth c H locs 0 0 (MQi G (CW G q) A s args below out) (F0 m 44 ls [.int t1, .ref (q 1)]) := by
  obtain ⟨hx, hb, hr, hts, hown, hml, hlocks⟩ := id bx
  unfold pX6_setMandatory_44 at h
  refine va_putN (D := G.1) (ci := 4) (v := .int t1) (ty := .int) (C := RX5) (T := TX5) (N := 6) hx hb hts in_wsX6_setMandatory_X5 tyX5 tyX5_ok nmX5 hown hK.1 hP hD hS 1 rfl rfl 4 (by decide) (hK.2.at 24 rfl) (fun _ h9 => h9) rfl (by decide +kernel) rfl rfl (Nat.le_of_ble_eq_true rfl) dX6_setMandatory_44 (fun H locs hP hD hS => ?_)
  have hP : va_P G.1 vwCl (CW G q (sS C 2 t1)) H := hP
  have hD : va_D A (CW G q (sS C 2 t1)) := hD
  obtain ⟨C_5, eC_5, h⟩ := ltv_ex h
  rw [← eC_5] at hP hD
  refine lv_aload_n hx hb dX6_setMandatory_47 rfl (lv_at hl 0 rfl) ?_
  obtain ⟨r_6, hr_6, h⟩ := bd_ex h
  refine ro_i (va_runV (As := []) (rest := []) ⟨hx, hb, hml, hown, hts⟩ (kX6_hasCompletion l G q C_5 r_6 hr_6) (cwV 0 hts gX6_setMandatory_X6_hasCompletion rfl rfl rfl (by decide +kernel) ⟨Nat.le_of_ble_eq_true rfl, Nat.le_of_ble_eq_true rfl⟩) (roV hP hK 5 0 rfl rfl) rfl rfl hl.1 rfl (lv_room (Nat.le_of_ble_eq_true rfl)) dX6_setMandatory_48 ⟨Nat.zero_le _, Nat.zero_le _⟩) ?_
  refine lv_if_ne (tgt := 72) hx hb dX6_setMandatory_51 (by decide) (fun c_51 => ?_) (fun c_51 => ?_)
  · have h := br_F h c_51
    refine lv_iload_n hx hb dX6_setMandatory_72 rfl (lv_at hl 2 rfl) ?_
    refine lv_iload_n hx hb dX6_setMandatory_73 rfl (lv_at hl 1 rfl) ?_
    obtain ⟨r_7, hr_7, h⟩ := bd_ex h
    refine ro_i (va_runS (As := [.int x3, .int x1]) (rest := []) ⟨hx, hb, hml, hown, hts⟩ (kX6_has l G q C_5 x3 x1 r_7 hr_7) (va_cwS 2 hts gX6_setMandatory_X6_has rfl rfl rfl (by decide +kernel) ⟨Nat.le_of_ble_eq_true rfl, Nat.le_of_ble_eq_true rfl⟩) (roS hP hK) rfl rfl hl.1 rfl (lv_room (Nat.le_of_ble_eq_true rfl)) dX6_setMandatory_74 ⟨Nat.zero_le _, Nat.zero_le _⟩) ?_
    obtain ⟨g77, h⟩ := gd_ex h
    exact MQi.end hx hb hr hlocks hP hS dX6_setMandatory_77 (okZ_n g77) (nn_ h)
  · have h := br_T h c_51
    refine lv_aload_n hx hb dX6_setMandatory_54 rfl (lv_at hl 0 rfl) ?_
    refine va_get (D := G.1) (ci := 5) (v := .ref (q 1)) (C := RX6) (T := TX6) (N := 7) hx hb hts in_wsX6_setMandatory_X6 hown hK.1 hP 0 rfl rfl 0 (by decide) (w_mem hts 3 rfl) (fun _ h9 => h9) rfl dX6_setMandatory_55 ?_
    refine lv_iload_n hx hb dX6_setMandatory_58 rfl (lv_at hl 2 rfl) ?_
    refine va_putN (D := G.1) (ci := 4) (v := .int x3) (ty := .int) (C := RX5) (T := TX5) (N := 6) hx hb hts in_wsX6_setMandatory_X5 tyX5 tyX5_ok nmX5 hown hK.1 hP hD hS 1 rfl rfl 4 (by decide) (hK.2.at 24 rfl) (fun _ h9 => h9) rfl (by decide +kernel) rfl rfl (Nat.le_of_ble_eq_true rfl) dX6_setMandatory_59 (fun H locs hP hD hS => ?_)
    have hP : va_P G.1 vwCl (CW G q (sS C_5 2 x3)) H := hP
    have hD : va_D A (CW G q (sS C_5 2 x3)) := hD
    obtain ⟨C_8, eC_8, h⟩ := ltv_ex h
    rw [← eC_8] at hP hD
    cases h

set_option maxHeartbeats 4000000 in
set_option maxRecDepth 100000 in
theorem kX6_setMandatory (l : Launch) (G : GT) (q : Nat → Nat) (C : St) (sz : Nat) (x1 : Int32) (x2 : Int32) (r : Int32 × St) (h : pX6_setMandatory C x1 x2 = some (.inr r)) : Met l yX6_setMandatory wsX6_setMandatory rmX6_setMandatory (va_Pc [.ref (q 0), .int x1, .int x2] (wrP G (CW G q C) sz)) (va_Qi (fun v u => (v, u) = r) (fun u t => va_P G.1 vwCl (CW G q u) t.heap) (va_A (CW G q C) sz)) 0 0 (va_A (CW G q C) sz) := by
  refine Met.ofW (cc := cX6_setMandatory) (maxL := 5) (ret := (some .boolean)) (by decide) rfl ?_
  intro p e s m args below meth c s₁ B hml hv
  obtain ⟨rfl, hsz, hP, hK, hD0⟩ := hv
  have bx := bx_of B hml
  subst hsz
  have hD := hD0.self (sz := s.heap.size)
  generalize hAe : va_A (CW G q C) s.heap.size = A at hD ⊢
  have hA : ∀ q : Nat, s.heap.size ≤ q → A q := fun q h => by rw [← hAe]; exact Or.inr h
  have hS : va_S A s.heap s.heap [] := va_S.rf
  obtain ⟨hx, hb, hr, hts, hown, hml, hlocks⟩ := id bx
  have hl := lv_entry ([.ref (q 0), .int x1, .int x2]) (n := 5) (Nat.le_of_ble_eq_true rfl)
  rw [lg_entry_eq]
  generalize (lg_sl ([.ref (q 0), .int x1, .int x2]) ++ List.replicate (5 - (lg_sl ([.ref (q 0), .int x1, .int x2])).length) Slot.unset).toArray = ls at hl ⊢
  have hl : lv_has ls 5 [(0, .ref (q 0)), (1, .int x1), (2, .int x2)] := hl
  show W p l e rmX6_setMandatory s m _ below meth c s.heap [] 0 0 (MQi G (CW G q) A s _ below r) (F0 m 0 ls [])
  unfold pX6_setMandatory at h
  refine lv_aload_n hx hb dX6_setMandatory_0 rfl (lv_at hl 0 rfl) ?_
  refine lv_iload_n hx hb dX6_setMandatory_1 rfl (lv_at hl 1 rfl) ?_
  obtain ⟨r_1, hr_1, h⟩ := tb_N h
  refine ro_v (va_runV (As := [.int x1]) (rest := []) ⟨hx, hb, hml, hown, hts⟩ (kX6_checkFeature l G q C x1 r_1 hr_1) (cwV 1 hts gX6_setMandatory_X6_checkFeature rfl rfl rfl (by decide +kernel) ⟨Nat.le_of_ble_eq_true rfl, Nat.le_of_ble_eq_true rfl⟩) (roV hP hK 5 0 rfl rfl) rfl rfl hl.1 rfl (lv_room (Nat.le_of_ble_eq_true rfl)) dX6_setMandatory_2 ⟨Nat.zero_le _, Nat.zero_le _⟩) ?_
  refine lv_aload_n hx hb dX6_setMandatory_5 rfl (lv_at hl 0 rfl) ?_
  refine lv_iload_n hx hb dX6_setMandatory_6 rfl (lv_at hl 1 rfl) ?_
  obtain ⟨r_2, hr_2, h⟩ := tb_N h
  refine ro_v (va_runV (As := [.int x1]) (rest := []) ⟨hx, hb, hml, hown, hts⟩ (kX6_checkNotRoot l G q C x1 r_2 hr_2) (cwV 1 hts gX6_setMandatory_X6_checkNotRoot rfl rfl rfl (by decide +kernel) ⟨Nat.le_of_ble_eq_true rfl, Nat.le_of_ble_eq_true rfl⟩) (roV hP hK 5 0 rfl rfl) rfl rfl hl.1 rfl (lv_room (Nat.le_of_ble_eq_true rfl)) dX6_setMandatory_7 ⟨Nat.zero_le _, Nat.zero_le _⟩) ?_
  refine lv_aload_n hx hb dX6_setMandatory_10 rfl (lv_at hl 0 rfl) ?_
  refine va_get (D := G.1) (ci := 5) (v := .ref (q 1)) (C := RX6) (T := TX6) (N := 7) hx hb hts in_wsX6_setMandatory_X6 hown hK.1 hP 0 rfl rfl 0 (by decide) (w_mem hts 3 rfl) (fun _ h9 => h9) rfl dX6_setMandatory_11 ?_
  refine va_getN (D := G.1) (ci := 4) (v := .int (C.1 2)) (C := RX5) (T := TX5) (N := 6) hx hb hts in_wsX6_setMandatory_X5 hown hK.1 hP 1 rfl rfl 4 (by decide) (hK.2.at 24 rfl) (fun _ h9 => h9) rfl dX6_setMandatory_14 ?_
  refine lv_topi (fun v_3 ev_3 => ?_)
  have h := ltv_at h v_3 ev_3
  refine lv_istore_n (lv' := [(3, .int v_3), (0, .ref (q 0)), (1, .int x1), (2, .int x2)]) hx hb dX6_setMandatory_17 rfl hl (by decide) rfl (fun ls hl => ?_)
  refine lv_iconst (v := 1) hx hb dX6_setMandatory_18 (by decide) ?_
  refine lv_iload_n hx hb dX6_setMandatory_19 rfl (lv_at hl 2 rfl) ?_
  refine lv_ishl hx hb dX6_setMandatory_20 ?_
  refine lv_topi (fun v_4 ev_4 => ?_)
  have h := ltv_at h v_4 ev_4
  refine lv_istore (lv' := [(4, .int v_4), (3, .int v_3), (0, .ref (q 0)), (1, .int x1), (2, .int x2)]) hx hb dX6_setMandatory_21 hl (by decide) rfl (fun ls hl => ?_)
  refine lv_aload_n hx hb dX6_setMandatory_23 rfl (lv_at hl 2 rfl) ?_
  refine va_get (D := G.1) (ci := 5) (v := .ref (q 1)) (C := RX6) (T := TX6) (N := 7) hx hb hts in_wsX6_setMandatory_X6 hown hK.1 hP 0 rfl rfl 0 (by decide) (w_mem hts 3 rfl) (fun _ h9 => h9) rfl dX6_setMandatory_24 ?_
  refine lv_iload_n hx hb dX6_setMandatory_27 rfl (lv_at hl 4 rfl) ?_
  refine lv_if_eq (tgt := 38) hx hb dX6_setMandatory_28 (by decide) (fun c_28 => ?_) (fun c_28 => ?_)
  · have h := br_T h c_28
    refine lv_iload_n hx hb dX6_setMandatory_38 rfl (lv_at hl 1 rfl) ?_
    refine lv_iload hx hb dX6_setMandatory_39 (lv_at hl 0 rfl) ?_
    refine lv_iconst (v := (-1)) hx hb dX6_setMandatory_41 (by decide) ?_
    refine lv_ixor hx hb dX6_setMandatory_42 ?_
    refine lv_iand hx hb dX6_setMandatory_43 ?_
    exact wX6_setMandatory_44 bx hA hK C x1 v_3 (v_3 &&& (v_4 ^^^ (-1))) h hP hD hS _ (lv_sub hl [2, 3, 1] rfl)
  · have h := br_F h c_28
    refine lv_iload_n hx hb dX6_setMandatory_31 rfl (lv_at hl 1 rfl) ?_
    refine lv_iload hx hb dX6_setMandatory_32 (lv_at hl 0 rfl) ?_
    refine lv_ior hx hb dX6_setMandatory_34 ?_
    refine lv_goto (tgt := 44) hx hb dX6_setMandatory_35 (by decide) ?_
    exact wX6_setMandatory_44 bx hA hK C x1 v_3 (v_3 ||| v_4) h hP hD hS _ (lv_sub hl [2, 3, 1] rfl)

def rxX6_setMandatory : Room := { frames := 18, cells := 1, slots := 6, locals := 454 }

set_option maxHeartbeats 4000000 in
set_option maxRecDepth 100000 in
theorem xX6_setMandatory_44 {p : Program} {l : Launch} {e : Env} {s : State} {m : MethodId} {args : Array Value} {below : List Frame} {meth : Method} {c : Code} {G : GT} {q : Nat → Nat} {A : Nat → Prop} {out : Nat × St} (bx : BX p RX6 wsX6_setMandatory cX6_setMandatory 5 (some .boolean) s m args meth c) (hA : ∀ q : Nat, s.heap.size ≤ q → A q) (hK : CK G s) (hl0 : l.stackTraces = false) (hE : XE A s) (hex : ∀ x ∈ c.exceptionTable.toList, False) (C : St) (x1 : Int32) (x3 : Int32) (t1 : Int32) (h : pX6_setMandatory_44 C x1 x3 t1 = some (.inl out)) {H : Heap} {locs : List Loc} (hP : va_P G.1 vwCl (CW G q C) H) (hD : va_D A (CW G q C)) (hS : va_S A s.heap H locs) (ls : Array Slot) (hl : lv_has ls 5 [(0, .ref (q 0)), (1, .int x1), (3, .int x3)]) : W p l e rxX6_setMandatory s m args below meth c H locs 0 0 (MQx G (CW G q) A s args below out) (F0 m 44 ls [.int t1, .ref (q 1)]) := by
  obtain ⟨hx, hb, hr, hts, hown, hml, hlocks⟩ := id bx
  unfold pX6_setMandatory_44 at h
  refine va_putN (D := G.1) (ci := 4) (v := .int t1) (ty := .int) (C := RX5) (T := TX5) (N := 6) hx hb hts in_wsX6_setMandatory_X5 tyX5 tyX5_ok nmX5 hown hK.1 hP hD hS 1 rfl rfl 4 (by decide) (hK.2.at 24 rfl) (fun _ h9 => h9) rfl (by decide +kernel) rfl rfl (Nat.le_of_ble_eq_true rfl) dX6_setMandatory_44 (fun H locs hP hD hS => ?_)
  have hP : va_P G.1 vwCl (CW G q (sS C 2 t1)) H := hP
  have hD : va_D A (CW G q (sS C 2 t1)) := hD
  obtain ⟨C_5, eC_5, h⟩ := ltv_ex h
  rw [← eC_5] at hP hD
  refine lv_aload_n hx hb dX6_setMandatory_47 rfl (lv_at hl 0 rfl) ?_
  obtain ⟨r_6, hr_6, h⟩ := bd_ex h
  refine ro_i (va_runV (As := []) (rest := []) ⟨hx, hb, hml, hown, hts⟩ (kX6_hasCompletion l G q C_5 r_6 hr_6) (cwV 0 hts gX6_setMandatory_X6_hasCompletion rfl rfl rfl (by decide +kernel) ⟨Nat.le_of_ble_eq_true rfl, Nat.le_of_ble_eq_true rfl⟩) (roV hP hK 5 0 rfl rfl) rfl rfl hl.1 rfl (lv_room (Nat.le_of_ble_eq_true rfl)) dX6_setMandatory_48 ⟨Nat.zero_le _, Nat.zero_le _⟩) ?_
  refine lv_if_ne (tgt := 72) hx hb dX6_setMandatory_51 (by decide) (fun c_51 => ?_) (fun c_51 => ?_)
  · have h := br_F h c_51
    refine lv_iload_n hx hb dX6_setMandatory_72 rfl (lv_at hl 2 rfl) ?_
    refine lv_iload_n hx hb dX6_setMandatory_73 rfl (lv_at hl 1 rfl) ?_
    obtain ⟨r_7, hr_7, h⟩ := bd_ex h
    refine ro_i (va_runS (As := [.int x3, .int x1]) (rest := []) ⟨hx, hb, hml, hown, hts⟩ (kX6_has l G q C_5 x3 x1 r_7 hr_7) (va_cwS 2 hts gX6_setMandatory_X6_has rfl rfl rfl (by decide +kernel) ⟨Nat.le_of_ble_eq_true rfl, Nat.le_of_ble_eq_true rfl⟩) (roS hP hK) rfl rfl hl.1 rfl (lv_room (Nat.le_of_ble_eq_true rfl)) dX6_setMandatory_74 ⟨Nat.zero_le _, Nat.zero_le _⟩) ?_
    obtain ⟨g77, h⟩ := gd_ex h
    cases h
  · have h := br_T h c_51
    refine lv_aload_n hx hb dX6_setMandatory_54 rfl (lv_at hl 0 rfl) ?_
    refine va_get (D := G.1) (ci := 5) (v := .ref (q 1)) (C := RX6) (T := TX6) (N := 7) hx hb hts in_wsX6_setMandatory_X6 hown hK.1 hP 0 rfl rfl 0 (by decide) (w_mem hts 3 rfl) (fun _ h9 => h9) rfl dX6_setMandatory_55 ?_
    refine lv_iload_n hx hb dX6_setMandatory_58 rfl (lv_at hl 2 rfl) ?_
    refine va_putN (D := G.1) (ci := 4) (v := .int x3) (ty := .int) (C := RX5) (T := TX5) (N := 6) hx hb hts in_wsX6_setMandatory_X5 tyX5 tyX5_ok nmX5 hown hK.1 hP hD hS 1 rfl rfl 4 (by decide) (hK.2.at 24 rfl) (fun _ h9 => h9) rfl (by decide +kernel) rfl rfl (Nat.le_of_ble_eq_true rfl) dX6_setMandatory_59 (fun H locs hP hD hS => ?_)
    have hP : va_P G.1 vwCl (CW G q (sS C_5 2 x3)) H := hP
    have hD : va_D A (CW G q (sS C_5 2 x3)) := hD
    obtain ⟨C_8, eC_8, h⟩ := ltv_ex h
    rw [← eC_8] at hP hD
    exact x_throwS (Wd := CW G q) (C := C_8) (k := 4) (cls := "java/lang/UnsupportedOperationException") (text := "there would be no completion") hx hb hl0 hts hown hml hlocks hex hK hE hP hS hl (by decide +kernel) (w_mem hts 1 rfl) (w_mem hts 2 rfl) (List.mem_of_getElem? (i := 2) rfl) (fun w h => List.mem_cons_of_mem _ (List.mem_append_left _ (List.mem_append_left _ (List.mem_append_right _ h)))) xB_86 xG_86_82 dX6_setMandatory_62 dX6_setMandatory_65 dX6_setMandatory_66 dX6_setMandatory_68 dX6_setMandatory_71 ⟨Nat.le_of_ble_eq_true rfl, Nat.le_of_ble_eq_true rfl, Nat.le_of_ble_eq_true rfl, Nat.le_of_ble_eq_true rfl⟩ ((xl_ h).symm) rfl

set_option maxHeartbeats 4000000 in
set_option maxRecDepth 100000 in
theorem xX6_setMandatory (l : Launch) (hl0 : l.stackTraces = false) (G : GT) (q : Nat → Nat) (C : St) (sz : Nat) (x1 : Int32) (x2 : Int32) (r : Nat × St) (h : pX6_setMandatory C x1 x2 = some (.inl r)) : vx_Met l yX6_setMandatory wsX6_setMandatory rxX6_setMandatory (va_Pc [.ref (q 0), .int x1, .int x2] (xP G (CW G q C) sz)) (fun _ _ _ _ => False) (XCf G (CW G q) (va_A (CW G q C) sz) r) 1 6 (va_A (CW G q C) sz) := by
  refine vx_ofW (cc := cX6_setMandatory) (maxL := 5) (ret := (some .boolean)) (by decide) rfl ?_
  intro p e s m args below meth c s₁ B hml hex hv
  obtain ⟨rfl, ⟨hsz, hP, hK, hD0⟩, hE⟩ := hv
  have bx := bx_of B hml
  subst hsz
  have hD := hD0.self (sz := s.heap.size)
  generalize hAe : va_A (CW G q C) s.heap.size = A at hD hE ⊢
  have hA : ∀ q : Nat, s.heap.size ≤ q → A q := fun q h => by rw [← hAe]; exact Or.inr h
  have hS : va_S A s.heap s.heap [] := va_S.rf
  obtain ⟨hx, hb, hr, hts, hown, hml, hlocks⟩ := id bx
  have hl := lv_entry ([.ref (q 0), .int x1, .int x2]) (n := 5) (Nat.le_of_ble_eq_true rfl)
  rw [lg_entry_eq]
  generalize (lg_sl ([.ref (q 0), .int x1, .int x2]) ++ List.replicate (5 - (lg_sl ([.ref (q 0), .int x1, .int x2])).length) Slot.unset).toArray = ls at hl ⊢
  have hl : lv_has ls 5 [(0, .ref (q 0)), (1, .int x1), (2, .int x2)] := hl
  show W p l e rxX6_setMandatory s m _ below meth c s.heap [] 0 0 (MQx G (CW G q) A s _ below r) (F0 m 0 ls [])
  unfold pX6_setMandatory at h
  refine lv_aload_n hx hb dX6_setMandatory_0 rfl (lv_at hl 0 rfl) ?_
  refine lv_iload_n hx hb dX6_setMandatory_1 rfl (lv_at hl 1 rfl) ?_
  rcases tb_X h with ⟨er_1, hr_1, h⟩ | ⟨r_1, hr_1, h⟩
  · exact x_prop (Wd := CW G q) (vx_runV (As := [.int x1]) (rest := []) ⟨hx, hb, hml, hown, hts⟩ (xX6_checkFeature l hl0 G q C _ x1 er_1 hr_1) (cwV 1 hts gX6_setMandatory_X6_checkFeature rfl rfl rfl (by decide +kernel) ⟨Nat.le_of_ble_eq_true rfl, Nat.le_of_ble_eq_true rfl⟩) (xV hP hD hS hK hA hE 5 0 rfl rfl) rfl rfl hl.1 rfl (lv_room (Nat.le_of_ble_eq_true rfl)) dX6_setMandatory_2 ⟨Nat.le_of_ble_eq_true rfl, Nat.le_of_ble_eq_true rfl⟩) hD hS hA (fun _ => rfl) hex hlocks h
  refine ro_v (va_runV (As := [.int x1]) (rest := []) ⟨hx, hb, hml, hown, hts⟩ (kX6_checkFeature l G q C x1 r_1 hr_1) (cwV 1 hts gX6_setMandatory_X6_checkFeature rfl rfl rfl (by decide +kernel) ⟨Nat.le_of_ble_eq_true rfl, Nat.le_of_ble_eq_true rfl⟩) (roV hP hK 5 0 rfl rfl) rfl rfl hl.1 rfl (lv_room (Nat.le_of_ble_eq_true rfl)) dX6_setMandatory_2 ⟨Nat.zero_le _, Nat.zero_le _⟩) ?_
  refine lv_aload_n hx hb dX6_setMandatory_5 rfl (lv_at hl 0 rfl) ?_
  refine lv_iload_n hx hb dX6_setMandatory_6 rfl (lv_at hl 1 rfl) ?_
  rcases tb_X h with ⟨er_2, hr_2, h⟩ | ⟨r_2, hr_2, h⟩
  · exact x_prop (Wd := CW G q) (vx_runV (As := [.int x1]) (rest := []) ⟨hx, hb, hml, hown, hts⟩ (xX6_checkNotRoot l hl0 G q C _ x1 er_2 hr_2) (cwV 1 hts gX6_setMandatory_X6_checkNotRoot rfl rfl rfl (by decide +kernel) ⟨Nat.le_of_ble_eq_true rfl, Nat.le_of_ble_eq_true rfl⟩) (xV hP hD hS hK hA hE 5 0 rfl rfl) rfl rfl hl.1 rfl (lv_room (Nat.le_of_ble_eq_true rfl)) dX6_setMandatory_7 ⟨Nat.le_of_ble_eq_true rfl, Nat.le_of_ble_eq_true rfl⟩) hD hS hA (fun _ => rfl) hex hlocks h
  refine ro_v (va_runV (As := [.int x1]) (rest := []) ⟨hx, hb, hml, hown, hts⟩ (kX6_checkNotRoot l G q C x1 r_2 hr_2) (cwV 1 hts gX6_setMandatory_X6_checkNotRoot rfl rfl rfl (by decide +kernel) ⟨Nat.le_of_ble_eq_true rfl, Nat.le_of_ble_eq_true rfl⟩) (roV hP hK 5 0 rfl rfl) rfl rfl hl.1 rfl (lv_room (Nat.le_of_ble_eq_true rfl)) dX6_setMandatory_7 ⟨Nat.zero_le _, Nat.zero_le _⟩) ?_
  refine lv_aload_n hx hb dX6_setMandatory_10 rfl (lv_at hl 0 rfl) ?_
  refine va_get (D := G.1) (ci := 5) (v := .ref (q 1)) (C := RX6) (T := TX6) (N := 7) hx hb hts in_wsX6_setMandatory_X6 hown hK.1 hP 0 rfl rfl 0 (by decide) (w_mem hts 3 rfl) (fun _ h9 => h9) rfl dX6_setMandatory_11 ?_
  refine va_getN (D := G.1) (ci := 4) (v := .int (C.1 2)) (C := RX5) (T := TX5) (N := 6) hx hb hts in_wsX6_setMandatory_X5 hown hK.1 hP 1 rfl rfl 4 (by decide) (hK.2.at 24 rfl) (fun _ h9 => h9) rfl dX6_setMandatory_14 ?_
  refine lv_topi (fun v_3 ev_3 => ?_)
  have h := ltv_at h v_3 ev_3
  refine lv_istore_n (lv' := [(3, .int v_3), (0, .ref (q 0)), (1, .int x1), (2, .int x2)]) hx hb dX6_setMandatory_17 rfl hl (by decide) rfl (fun ls hl => ?_)
  refine lv_iconst (v := 1) hx hb dX6_setMandatory_18 (by decide) ?_
  refine lv_iload_n hx hb dX6_setMandatory_19 rfl (lv_at hl 2 rfl) ?_
  refine lv_ishl hx hb dX6_setMandatory_20 ?_
  refine lv_topi (fun v_4 ev_4 => ?_)
  have h := ltv_at h v_4 ev_4
  refine lv_istore (lv' := [(4, .int v_4), (3, .int v_3), (0, .ref (q 0)), (1, .int x1), (2, .int x2)]) hx hb dX6_setMandatory_21 hl (by decide) rfl (fun ls hl => ?_)
  refine lv_aload_n hx hb dX6_setMandatory_23 rfl (lv_at hl 2 rfl) ?_
  refine va_get (D := G.1) (ci := 5) (v := .ref (q 1)) (C := RX6) (T := TX6) (N := 7) hx hb hts in_wsX6_setMandatory_X6 hown hK.1 hP 0 rfl rfl 0 (by decide) (w_mem hts 3 rfl) (fun _ h9 => h9) rfl dX6_setMandatory_24 ?_
  refine lv_iload_n hx hb dX6_setMandatory_27 rfl (lv_at hl 4 rfl) ?_
  refine lv_if_eq (tgt := 38) hx hb dX6_setMandatory_28 (by decide) (fun c_28 => ?_) (fun c_28 => ?_)
  · have h := br_T h c_28
    refine lv_iload_n hx hb dX6_setMandatory_38 rfl (lv_at hl 1 rfl) ?_
    refine lv_iload hx hb dX6_setMandatory_39 (lv_at hl 0 rfl) ?_
    refine lv_iconst (v := (-1)) hx hb dX6_setMandatory_41 (by decide) ?_
    refine lv_ixor hx hb dX6_setMandatory_42 ?_
    refine lv_iand hx hb dX6_setMandatory_43 ?_
    exact xX6_setMandatory_44 bx hA hK hl0 hE hex C x1 v_3 (v_3 &&& (v_4 ^^^ (-1))) h hP hD hS _ (lv_sub hl [2, 3, 1] rfl)
  · have h := br_F h c_28
    refine lv_iload_n hx hb dX6_setMandatory_31 rfl (lv_at hl 1 rfl) ?_
    refine lv_iload hx hb dX6_setMandatory_32 (lv_at hl 0 rfl) ?_
    refine lv_ior hx hb dX6_setMandatory_34 ?_
    refine lv_goto (tgt := 44) hx hb dX6_setMandatory_35 (by decide) ?_
    exact xX6_setMandatory_44 bx hA hK hl0 hE hex C x1 v_3 (v_3 ||| v_4) h hP hD hS _ (lv_sub hl [2, 3, 1] rfl)

def rmX6_setGroup : Room := { frames := 18, cells := 0, slots := 0, locals := 454 }

theorem in_wsX6_setGroup_X6 : ∀ w ∈ u_ws RX6 TX6 7, w ∈ wsX6_setGroup := by decide +kernel

theorem in_wsX6_setGroup_X5 : ∀ w ∈ u_ws RX5 TX5 6, w ∈ wsX6_setGroup := by decide +kernel

set_option maxHeartbeats 4000000 in
set_option maxRecDepth 100000 in
theorem wX6_setGroup_20 {p : Program} {l : Launch} {e : Env} {s : State} {m : MethodId} {args : Array Value} {below : List Frame} {meth : Method} {c : Code} {G : GT} {q : Nat → Nat} {A : Nat → Prop} {out : Int32 × St} (bx : BX p RX6 wsX6_setGroup cX6_setGroup 6 (some .int) s m args meth c) (hA : ∀ q : Nat, s.heap.size ≤ q → A q) (hK : CK G s) (C : St) (h : pX6_setGroup_20 C = some (.inr out)) {H : Heap} {locs : List Loc} (hP : va_P G.1 vwCl (CW G q C) H) (hD : va_D A (CW G q C)) (hS : va_S A s.heap H locs) (ls : Array Slot) (hl : lv_has ls 6 []) : W p l e rmX6_setGroup s m args below meth c H locs 0 0 (MQi G (CW G q) A s args below out) (F0 m 20 ls []) := by
  obtain ⟨hx, hb, hr, hts, hown, hml, hlocks⟩ := id bx
  unfold pX6_setGroup_20 at h
  cases h

set_option maxHeartbeats 4000000 in
set_option maxRecDepth 100000 in
theorem kX6_setGroup (l : Launch) (G : GT) (q : Nat → Nat) (C : St) (sz : Nat) (x1 : Int32) (x2 : Int32) (x3 : Int32) (r : Int32 × St) (h : pX6_setGroup C x1 x2 x3 = some (.inr r)) : Met l yX6_setGroup wsX6_setGroup rmX6_setGroup (va_Pc [.ref (q 0), .int x1, .int x2, .int x3] (wrP G (CW G q C) sz)) (va_Qi (fun v u => (v, u) = r) (fun u t => va_P G.1 vwCl (CW G q u) t.heap) (va_A (CW G q C) sz)) 0 0 (va_A (CW G q C) sz) := by
  refine Met.ofW (cc := cX6_setGroup) (maxL := 6) (ret := (some .int)) (by decide) rfl ?_
  intro p e s m args below meth c s₁ B hml hv
  obtain ⟨rfl, hsz, hP, hK, hD0⟩ := hv
  have bx := bx_of B hml
  subst hsz
  have hD := hD0.self (sz := s.heap.size)
  generalize hAe : va_A (CW G q C) s.heap.size = A at hD ⊢
  have hA : ∀ q : Nat, s.heap.size ≤ q → A q := fun q h => by rw [← hAe]; exact Or.inr h
  have hS : va_S A s.heap s.heap [] := va_S.rf
  obtain ⟨hx, hb, hr, hts, hown, hml, hlocks⟩ := id bx
  have hl := lv_entry ([.ref (q 0), .int x1, .int x2, .int x3]) (n := 6) (Nat.le_of_ble_eq_true rfl)
  rw [lg_entry_eq]
  generalize (lg_sl ([.ref (q 0), .int x1, .int x2, .int x3]) ++ List.replicate (6 - (lg_sl ([.ref (q 0), .int x1, .int x2, .int x3])).length) Slot.unset).toArray = ls at hl ⊢
  have hl : lv_has ls 6 [(0, .ref (q 0)), (1, .int x1), (2, .int x2), (3, .int x3)] := hl
  show W p l e rmX6_setGroup s m _ below meth c s.heap [] 0 0 (MQi G (CW G q) A s _ below r) (F0 m 0 ls [])
  unfold pX6_setGroup at h
  refine lv_aload_n hx hb dX6_setGroup_0 rfl (lv_at hl 0 rfl) ?_
  refine lv_iload_n hx hb dX6_setGroup_1 rfl (lv_at hl 1 rfl) ?_
  obtain ⟨r_1, hr_1, h⟩ := tb_N h
  refine ro_v (va_runV (As := [.int x1]) (rest := []) ⟨hx, hb, hml, hown, hts⟩ (kX6_checkFeature l G q C x1 r_1 hr_1) (cwV 1 hts gX6_setGroup_X6_checkFeature rfl rfl rfl (by decide +kernel) ⟨Nat.le_of_ble_eq_true rfl, Nat.le_of_ble_eq_true rfl⟩) (roV hP hK 5 0 rfl rfl) rfl rfl hl.1 rfl (lv_room (Nat.le_of_ble_eq_true rfl)) dX6_setGroup_2 ⟨Nat.zero_le _, Nat.zero_le _⟩) ?_
  refine lv_iload_n hx hb dX6_setGroup_5 rfl (lv_at hl 2 rfl) ?_
  refine lv_if_lt (tgt := 20) hx hb dX6_setGroup_6 (by decide) (fun c_6 => ?_) (fun c_6 => ?_)
  · have h := br_T h c_6
    exact wX6_setGroup_20 bx hA hK C h hP hD hS _ (lv_sub hl [] rfl)
  · have h := br_F h c_6
    refine lv_iload_n hx hb dX6_setGroup_9 rfl (lv_at hl 3 rfl) ?_
    refine lv_iload_n hx hb dX6_setGroup_10 rfl (lv_at hl 2 rfl) ?_
    refine lv_icmp_lt (tgt := 20) hx hb dX6_setGroup_11 (by decide) (fun c_11 => ?_) (fun c_11 => ?_)
    · have h := br_T h c_11
      exact wX6_setGroup_20 bx hA hK C h hP hD hS _ (lv_sub hl [] rfl)
    · have h := br_F h c_11
      refine lv_iload_n hx hb dX6_setGroup_14 rfl (lv_at hl 3 rfl) ?_
      refine lv_bipush (v := 12) hx hb dX6_setGroup_15 (by decide) ?_
      refine lv_icmp_le (tgt := 30) hx hb dX6_setGroup_17 (by decide) (fun c_17 => ?_) (fun c_17 => ?_)
      · have h := br_T h c_17
        refine lv_aload_n hx hb dX6_setGroup_30 rfl (lv_at hl 0 rfl) ?_
        refine va_get (D := G.1) (ci := 5) (v := .ref (q 1)) (C := RX6) (T := TX6) (N := 7) hx hb hts in_wsX6_setGroup_X6 hown hK.1 hP 0 rfl rfl 0 (by decide) (w_mem hts 5 rfl) (fun _ h9 => h9) rfl dX6_setGroup_31 ?_
        refine va_getN (D := G.1) (ci := 4) (v := .ref (q 8)) (C := RX5) (T := TX5) (N := 6) hx hb hts in_wsX6_setGroup_X5 hown hK.1 hP 1 rfl rfl 2 (by decide) (hK.2.at 25 rfl) (fun _ h9 => h9) rfl dX6_setGroup_34 ?_
        refine lv_iload_n hx hb dX6_setGroup_37 rfl (lv_at hl 1 rfl) ?_
        obtain ⟨g38, h⟩ := gd_ex h
        refine va_iald (D := G.1) hx hb hK.1 hP 8 0 rfl rfl g38 dX6_setGroup_38 ?_
        refine lv_topi (fun v_2 ev_2 => ?_)
        have h := ltv_at h v_2 ev_2
        refine lv_istore (lv' := [(4, .int v_2), (0, .ref (q 0)), (1, .int x1), (2, .int x2), (3, .int x3)]) hx hb dX6_setGroup_39 hl (by decide) rfl (fun ls hl => ?_)
        refine lv_aload_n hx hb dX6_setGroup_41 rfl (lv_at hl 1 rfl) ?_
        refine va_get (D := G.1) (ci := 5) (v := .ref (q 1)) (C := RX6) (T := TX6) (N := 7) hx hb hts in_wsX6_setGroup_X6 hown hK.1 hP 0 rfl rfl 0 (by decide) (w_mem hts 5 rfl) (fun _ h9 => h9) rfl dX6_setGroup_42 ?_
        refine va_getN (D := G.1) (ci := 4) (v := .ref (q 9)) (C := RX5) (T := TX5) (N := 6) hx hb hts in_wsX6_setGroup_X5 hown hK.1 hP 1 rfl rfl 3 (by decide) (hK.2.at 26 rfl) (fun _ h9 => h9) rfl dX6_setGroup_45 ?_
        refine lv_iload_n hx hb dX6_setGroup_48 rfl (lv_at hl 2 rfl) ?_
        obtain ⟨g49, h⟩ := gd_ex h
        refine va_iald (D := G.1) hx hb hK.1 hP 9 0 rfl rfl g49 dX6_setGroup_49 ?_
        refine lv_topi (fun v_3 ev_3 => ?_)
        have h := ltv_at h v_3 ev_3
        refine lv_istore (lv' := [(5, .int v_3), (4, .int v_2), (0, .ref (q 0)), (1, .int x1), (2, .int x2), (3, .int x3)]) hx hb dX6_setGroup_50 hl (by decide) rfl (fun ls hl => ?_)
        refine lv_aload_n hx hb dX6_setGroup_52 rfl (lv_at hl 2 rfl) ?_
        refine va_get (D := G.1) (ci := 5) (v := .ref (q 1)) (C := RX6) (T := TX6) (N := 7) hx hb hts in_wsX6_setGroup_X6 hown hK.1 hP 0 rfl rfl 0 (by decide) (w_mem hts 5 rfl) (fun _ h9 => h9) rfl dX6_setGroup_53 ?_
        refine va_getN (D := G.1) (ci := 4) (v := .ref (q 8)) (C := RX5) (T := TX5) (N := 6) hx hb hts in_wsX6_setGroup_X5 hown hK.1 hP 1 rfl rfl 2 (by decide) (hK.2.at 25 rfl) (fun _ h9 => h9) rfl dX6_setGroup_56 ?_
        refine lv_iload_n hx hb dX6_setGroup_59 rfl (lv_at hl 3 rfl) ?_
        refine lv_iload_n hx hb dX6_setGroup_60 rfl (lv_at hl 4 rfl) ?_
        obtain ⟨g61, h⟩ := gd_ex h
        refine va_iast (D := G.1) hx hb hK.1 hP hD hS 8 0 rfl rfl g61 dX6_setGroup_61 (fun H locs hP hD hS => ?_)
        have hP : va_P G.1 vwCl (CW G q (sA C 2 x1.toNatClampNeg x2)) H := hP
        have hD : va_D A (CW G q (sA C 2 x1.toNatClampNeg x2)) := hD
        obtain ⟨C_4, eC_4, h⟩ := ltv_ex h
        rw [← eC_4] at hP hD
        refine lv_aload_n hx hb dX6_setGroup_62 rfl (lv_at hl 2 rfl) ?_
        refine va_get (D := G.1) (ci := 5) (v := .ref (q 1)) (C := RX6) (T := TX6) (N := 7) hx hb hts in_wsX6_setGroup_X6 hown hK.1 hP 0 rfl rfl 0 (by decide) (w_mem hts 5 rfl) (fun _ h9 => h9) rfl dX6_setGroup_63 ?_
        refine va_getN (D := G.1) (ci := 4) (v := .ref (q 9)) (C := RX5) (T := TX5) (N := 6) hx hb hts in_wsX6_setGroup_X5 hown hK.1 hP 1 rfl rfl 3 (by decide) (hK.2.at 26 rfl) (fun _ h9 => h9) rfl dX6_setGroup_66 ?_
        refine lv_iload_n hx hb dX6_setGroup_69 rfl (lv_at hl 3 rfl) ?_
        refine lv_iload_n hx hb dX6_setGroup_70 rfl (lv_at hl 5 rfl) ?_
        obtain ⟨g71, h⟩ := gd_ex h
        refine va_iast (D := G.1) hx hb hK.1 hP hD hS 9 0 rfl rfl g71 dX6_setGroup_71 (fun H locs hP hD hS => ?_)
        have hP : va_P G.1 vwCl (CW G q (sA C_4 3 x1.toNatClampNeg x3)) H := hP
        have hD : va_D A (CW G q (sA C_4 3 x1.toNatClampNeg x3)) := hD
        obtain ⟨C_5, eC_5, h⟩ := ltv_ex h
        rw [← eC_5] at hP hD
        refine lv_aload_n hx hb dX6_setGroup_72 rfl (lv_at hl 2 rfl) ?_
        obtain ⟨r_6, hr_6, h⟩ := bd_ex h
        refine ro_i (va_runV (As := []) (rest := []) ⟨hx, hb, hml, hown, hts⟩ (kX6_hasCompletion l G q C_5 r_6 hr_6) (cwV 0 hts gX6_setGroup_X6_hasCompletion rfl rfl rfl (by decide +kernel) ⟨Nat.le_of_ble_eq_true rfl, Nat.le_of_ble_eq_true rfl⟩) (roV hP hK 5 0 rfl rfl) rfl rfl hl.1 rfl (lv_room (Nat.le_of_ble_eq_true rfl)) dX6_setGroup_73 ⟨Nat.zero_le _, Nat.zero_le _⟩) ?_
        refine lv_if_ne (tgt := 111) hx hb dX6_setGroup_76 (by decide) (fun c_76 => ?_) (fun c_76 => ?_)
        · have h := br_F h c_76
          refine lv_aload_n hx hb dX6_setGroup_111 rfl (lv_at hl 2 rfl) ?_
          refine va_get (D := G.1) (ci := 5) (v := .ref (q 1)) (C := RX6) (T := TX6) (N := 7) hx hb hts in_wsX6_setGroup_X6 hown hK.1 hP 0 rfl rfl 0 (by decide) (w_mem hts 5 rfl) (fun _ h9 => h9) rfl dX6_setGroup_112 ?_
          refine va_getN (D := G.1) (ci := 4) (v := .ref (q 7)) (C := RX5) (T := TX5) (N := 6) hx hb hts in_wsX6_setGroup_X5 hown hK.1 hP 1 rfl rfl 1 (by decide) (hK.2.at 27 rfl) (fun _ h9 => h9) rfl dX6_setGroup_115 ?_
          refine lv_iload_n hx hb dX6_setGroup_118 rfl (lv_at hl 3 rfl) ?_
          obtain ⟨g119, h⟩ := gd_ex h
          refine va_iald (D := G.1) hx hb hK.1 hP 7 0 rfl rfl g119 dX6_setGroup_119 ?_
          obtain ⟨r_7, hr_7, h⟩ := bd_ex h
          refine ro_i (va_runS (As := [.int (C_5.2 1 x1.toNatClampNeg)]) (rest := []) ⟨hx, hb, hml, hown, hts⟩ (kJ6_bitCount_0f7a4 l (C_5.2 1 x1.toNatClampNeg) r_7 hr_7) (va_cwS 1 hts gX6_setGroup_J6_bitCount_0f7a4 rfl rfl rfl (by decide +kernel) ⟨Nat.le_of_ble_eq_true rfl, Nat.le_of_ble_eq_true rfl⟩) noS rfl rfl hl.1 rfl (lv_room (Nat.le_of_ble_eq_true rfl)) dX6_setGroup_120 ⟨Nat.zero_le _, Nat.zero_le _⟩) ?_
          exact MQi.end hx hb hr hlocks hP hS dX6_setGroup_123 rfl (nn_ h)
        · have h := br_T h c_76
          refine lv_aload_n hx hb dX6_setGroup_79 rfl (lv_at hl 2 rfl) ?_
          refine va_get (D := G.1) (ci := 5) (v := .ref (q 1)) (C := RX6) (T := TX6) (N := 7) hx hb hts in_wsX6_setGroup_X6 hown hK.1 hP 0 rfl rfl 0 (by decide) (w_mem hts 5 rfl) (fun _ h9 => h9) rfl dX6_setGroup_80 ?_
          refine va_getN (D := G.1) (ci := 4) (v := .ref (q 8)) (C := RX5) (T := TX5) (N := 6) hx hb hts in_wsX6_setGroup_X5 hown hK.1 hP 1 rfl rfl 2 (by decide) (hK.2.at 25 rfl) (fun _ h9 => h9) rfl dX6_setGroup_83 ?_
          refine lv_iload_n hx hb dX6_setGroup_86 rfl (lv_at hl 3 rfl) ?_
          refine lv_iload hx hb dX6_setGroup_87 (lv_at hl 1 rfl) ?_
          obtain ⟨g89, h⟩ := gd_ex h
          refine va_iast (D := G.1) hx hb hK.1 hP hD hS 8 0 rfl rfl g89 dX6_setGroup_89 (fun H locs hP hD hS => ?_)
          have hP : va_P G.1 vwCl (CW G q (sA C_5 2 x1.toNatClampNeg v_2)) H := hP
          have hD : va_D A (CW G q (sA C_5 2 x1.toNatClampNeg v_2)) := hD
          obtain ⟨C_8, eC_8, h⟩ := ltv_ex h
          rw [← eC_8] at hP hD
          refine lv_aload_n hx hb dX6_setGroup_90 rfl (lv_at hl 2 rfl) ?_
          refine va_get (D := G.1) (ci := 5) (v := .ref (q 1)) (C := RX6) (T := TX6) (N := 7) hx hb hts in_wsX6_setGroup_X6 hown hK.1 hP 0 rfl rfl 0 (by decide) (w_mem hts 5 rfl) (fun _ h9 => h9) rfl dX6_setGroup_91 ?_
          refine va_getN (D := G.1) (ci := 4) (v := .ref (q 9)) (C := RX5) (T := TX5) (N := 6) hx hb hts in_wsX6_setGroup_X5 hown hK.1 hP 1 rfl rfl 3 (by decide) (hK.2.at 26 rfl) (fun _ h9 => h9) rfl dX6_setGroup_94 ?_
          refine lv_iload_n hx hb dX6_setGroup_97 rfl (lv_at hl 3 rfl) ?_
          refine lv_iload hx hb dX6_setGroup_98 (lv_at hl 0 rfl) ?_
          obtain ⟨g100, h⟩ := gd_ex h
          refine va_iast (D := G.1) hx hb hK.1 hP hD hS 9 0 rfl rfl g100 dX6_setGroup_100 (fun H locs hP hD hS => ?_)
          have hP : va_P G.1 vwCl (CW G q (sA C_8 3 x1.toNatClampNeg v_3)) H := hP
          have hD : va_D A (CW G q (sA C_8 3 x1.toNatClampNeg v_3)) := hD
          obtain ⟨C_9, eC_9, h⟩ := ltv_ex h
          rw [← eC_9] at hP hD
          cases h
      · have h := br_F h c_17
        exact wX6_setGroup_20 bx hA hK C h hP hD hS _ (lv_sub hl [] rfl)

def rxX6_setGroup : Room := { frames := 18, cells := 1, slots := 6, locals := 454 }

set_option maxHeartbeats 4000000 in
set_option maxRecDepth 100000 in
theorem xX6_setGroup_20 {p : Program} {l : Launch} {e : Env} {s : State} {m : MethodId} {args : Array Value} {below : List Frame} {meth : Method} {c : Code} {G : GT} {q : Nat → Nat} {A : Nat → Prop} {out : Nat × St} (bx : BX p RX6 wsX6_setGroup cX6_setGroup 6 (some .int) s m args meth c) (hA : ∀ q : Nat, s.heap.size ≤ q → A q) (hK : CK G s) (hl0 : l.stackTraces = false) (hE : XE A s) (hex : ∀ x ∈ c.exceptionTable.toList, False) (C : St) (h : pX6_setGroup_20 C = some (.inl out)) {H : Heap} {locs : List Loc} (hP : va_P G.1 vwCl (CW G q C) H) (hD : va_D A (CW G q C)) (hS : va_S A s.heap H locs) (ls : Array Slot) (hl : lv_has ls 6 []) : W p l e rxX6_setGroup s m args below meth c H locs 0 0 (MQx G (CW G q) A s args below out) (F0 m 20 ls []) := by
  obtain ⟨hx, hb, hr, hts, hown, hml, hlocks⟩ := id bx
  unfold pX6_setGroup_20 at h
  exact x_throwS (Wd := CW G q) (C := C) (k := 2) (cls := "java/lang/IllegalArgumentException") (text := "a number is out of range") hx hb hl0 hts hown hml hlocks hex hK hE hP hS hl (by decide +kernel) (w_mem hts 1 rfl) (w_mem hts 2 rfl) (List.mem_of_getElem? (i := 3) rfl) (fun w h => List.mem_cons_of_mem _ (List.mem_append_left _ (List.mem_append_left _ (List.mem_append_right _ h)))) xB_52 xG_52_48 dX6_setGroup_20 dX6_setGroup_23 dX6_setGroup_24 dX6_setGroup_26 dX6_setGroup_29 ⟨Nat.le_of_ble_eq_true rfl, Nat.le_of_ble_eq_true rfl, Nat.le_of_ble_eq_true rfl, Nat.le_of_ble_eq_true rfl⟩ ((xl_ h).symm) rfl

set_option maxHeartbeats 4000000 in
set_option maxRecDepth 100000 in
theorem xX6_setGroup (l : Launch) (hl0 : l.stackTraces = false) (G : GT) (q : Nat → Nat) (C : St) (sz : Nat) (x1 : Int32) (x2 : Int32) (x3 : Int32) (r : Nat × St) (h : pX6_setGroup C x1 x2 x3 = some (.inl r)) : vx_Met l yX6_setGroup wsX6_setGroup rxX6_setGroup (va_Pc [.ref (q 0), .int x1, .int x2, .int x3] (xP G (CW G q C) sz)) (fun _ _ _ _ => False) (XCf G (CW G q) (va_A (CW G q C) sz) r) 1 6 (va_A (CW G q C) sz) := by
  refine vx_ofW (cc := cX6_setGroup) (maxL := 6) (ret := (some .int)) (by decide) rfl ?_
  intro p e s m args below meth c s₁ B hml hex hv
  obtain ⟨rfl, ⟨hsz, hP, hK, hD0⟩, hE⟩ := hv
  have bx := bx_of B hml
  subst hsz
  have hD := hD0.self (sz := s.heap.size)
  generalize hAe : va_A (CW G q C) s.heap.size = A at hD hE ⊢
  have hA : ∀ q : Nat, s.heap.size ≤ q → A q := fun q h => by rw [← hAe]; exact Or.inr h
  have hS : va_S A s.heap s.heap [] := va_S.rf
  obtain ⟨hx, hb, hr, hts, hown, hml, hlocks⟩ := id bx
  have hl := lv_entry ([.ref (q 0), .int x1, .int x2, .int x3]) (n := 6) (Nat.le_of_ble_eq_true rfl)
  rw [lg_entry_eq]
  generalize (lg_sl ([.ref (q 0), .int x1, .int x2, .int x3]) ++ List.replicate (6 - (lg_sl ([.ref (q 0), .int x1, .int x2, .int x3])).length) Slot.unset).toArray = ls at hl ⊢
  have hl : lv_has ls 6 [(0, .ref (q 0)), (1, .int x1), (2, .int x2), (3, .int x3)] := hl
  show W p l e rxX6_setGroup s m _ below meth c s.heap [] 0 0 (MQx G (CW G q) A s _ below r) (F0 m 0 ls [])
  unfold pX6_setGroup at h
  refine lv_aload_n hx hb dX6_setGroup_0 rfl (lv_at hl 0 rfl) ?_
  refine lv_iload_n hx hb dX6_setGroup_1 rfl (lv_at hl 1 rfl) ?_
  rcases tb_X h with ⟨er_1, hr_1, h⟩ | ⟨r_1, hr_1, h⟩
  · exact x_prop (Wd := CW G q) (vx_runV (As := [.int x1]) (rest := []) ⟨hx, hb, hml, hown, hts⟩ (xX6_checkFeature l hl0 G q C _ x1 er_1 hr_1) (cwV 1 hts gX6_setGroup_X6_checkFeature rfl rfl rfl (by decide +kernel) ⟨Nat.le_of_ble_eq_true rfl, Nat.le_of_ble_eq_true rfl⟩) (xV hP hD hS hK hA hE 5 0 rfl rfl) rfl rfl hl.1 rfl (lv_room (Nat.le_of_ble_eq_true rfl)) dX6_setGroup_2 ⟨Nat.le_of_ble_eq_true rfl, Nat.le_of_ble_eq_true rfl⟩) hD hS hA (fun _ => rfl) hex hlocks h
  refine ro_v (va_runV (As := [.int x1]) (rest := []) ⟨hx, hb, hml, hown, hts⟩ (kX6_checkFeature l G q C x1 r_1 hr_1) (cwV 1 hts gX6_setGroup_X6_checkFeature rfl rfl rfl (by decide +kernel) ⟨Nat.le_of_ble_eq_true rfl, Nat.le_of_ble_eq_true rfl⟩) (roV hP hK 5 0 rfl rfl) rfl rfl hl.1 rfl (lv_room (Nat.le_of_ble_eq_true rfl)) dX6_setGroup_2 ⟨Nat.zero_le _, Nat.zero_le _⟩) ?_
  refine lv_iload_n hx hb dX6_setGroup_5 rfl (lv_at hl 2 rfl) ?_
  refine lv_if_lt (tgt := 20) hx hb dX6_setGroup_6 (by decide) (fun c_6 => ?_) (fun c_6 => ?_)
  · have h := br_T h c_6
    exact xX6_setGroup_20 bx hA hK hl0 hE hex C h hP hD hS _ (lv_sub hl [] rfl)
  · have h := br_F h c_6
    refine lv_iload_n hx hb dX6_setGroup_9 rfl (lv_at hl 3 rfl) ?_
    refine lv_iload_n hx hb dX6_setGroup_10 rfl (lv_at hl 2 rfl) ?_
    refine lv_icmp_lt (tgt := 20) hx hb dX6_setGroup_11 (by decide) (fun c_11 => ?_) (fun c_11 => ?_)
    · have h := br_T h c_11
      exact xX6_setGroup_20 bx hA hK hl0 hE hex C h hP hD hS _ (lv_sub hl [] rfl)
    · have h := br_F h c_11
      refine lv_iload_n hx hb dX6_setGroup_14 rfl (lv_at hl 3 rfl) ?_
      refine lv_bipush (v := 12) hx hb dX6_setGroup_15 (by decide) ?_
      refine lv_icmp_le (tgt := 30) hx hb dX6_setGroup_17 (by decide) (fun c_17 => ?_) (fun c_17 => ?_)
      · have h := br_T h c_17
        refine lv_aload_n hx hb dX6_setGroup_30 rfl (lv_at hl 0 rfl) ?_
        refine va_get (D := G.1) (ci := 5) (v := .ref (q 1)) (C := RX6) (T := TX6) (N := 7) hx hb hts in_wsX6_setGroup_X6 hown hK.1 hP 0 rfl rfl 0 (by decide) (w_mem hts 5 rfl) (fun _ h9 => h9) rfl dX6_setGroup_31 ?_
        refine va_getN (D := G.1) (ci := 4) (v := .ref (q 8)) (C := RX5) (T := TX5) (N := 6) hx hb hts in_wsX6_setGroup_X5 hown hK.1 hP 1 rfl rfl 2 (by decide) (hK.2.at 25 rfl) (fun _ h9 => h9) rfl dX6_setGroup_34 ?_
        refine lv_iload_n hx hb dX6_setGroup_37 rfl (lv_at hl 1 rfl) ?_
        obtain ⟨g38, h⟩ := gd_ex h
        refine va_iald (D := G.1) hx hb hK.1 hP 8 0 rfl rfl g38 dX6_setGroup_38 ?_
        refine lv_topi (fun v_2 ev_2 => ?_)
        have h := ltv_at h v_2 ev_2
        refine lv_istore (lv' := [(4, .int v_2), (0, .ref (q 0)), (1, .int x1), (2, .int x2), (3, .int x3)]) hx hb dX6_setGroup_39 hl (by decide) rfl (fun ls hl => ?_)
        refine lv_aload_n hx hb dX6_setGroup_41 rfl (lv_at hl 1 rfl) ?_
        refine va_get (D := G.1) (ci := 5) (v := .ref (q 1)) (C := RX6) (T := TX6) (N := 7) hx hb hts in_wsX6_setGroup_X6 hown hK.1 hP 0 rfl rfl 0 (by decide) (w_mem hts 5 rfl) (fun _ h9 => h9) rfl dX6_setGroup_42 ?_
        refine va_getN (D := G.1) (ci := 4) (v := .ref (q 9)) (C := RX5) (T := TX5) (N := 6) hx hb hts in_wsX6_setGroup_X5 hown hK.1 hP 1 rfl rfl 3 (by decide) (hK.2.at 26 rfl) (fun _ h9 => h9) rfl dX6_setGroup_45 ?_
        refine lv_iload_n hx hb dX6_setGroup_48 rfl (lv_at hl 2 rfl) ?_
        obtain ⟨g49, h⟩ := gd_ex h
        refine va_iald (D := G.1) hx hb hK.1 hP 9 0 rfl rfl g49 dX6_setGroup_49 ?_
        refine lv_topi (fun v_3 ev_3 => ?_)
        have h := ltv_at h v_3 ev_3
        refine lv_istore (lv' := [(5, .int v_3), (4, .int v_2), (0, .ref (q 0)), (1, .int x1), (2, .int x2), (3, .int x3)]) hx hb dX6_setGroup_50 hl (by decide) rfl (fun ls hl => ?_)
        refine lv_aload_n hx hb dX6_setGroup_52 rfl (lv_at hl 2 rfl) ?_
        refine va_get (D := G.1) (ci := 5) (v := .ref (q 1)) (C := RX6) (T := TX6) (N := 7) hx hb hts in_wsX6_setGroup_X6 hown hK.1 hP 0 rfl rfl 0 (by decide) (w_mem hts 5 rfl) (fun _ h9 => h9) rfl dX6_setGroup_53 ?_
        refine va_getN (D := G.1) (ci := 4) (v := .ref (q 8)) (C := RX5) (T := TX5) (N := 6) hx hb hts in_wsX6_setGroup_X5 hown hK.1 hP 1 rfl rfl 2 (by decide) (hK.2.at 25 rfl) (fun _ h9 => h9) rfl dX6_setGroup_56 ?_
        refine lv_iload_n hx hb dX6_setGroup_59 rfl (lv_at hl 3 rfl) ?_
        refine lv_iload_n hx hb dX6_setGroup_60 rfl (lv_at hl 4 rfl) ?_
        obtain ⟨g61, h⟩ := gd_ex h
        refine va_iast (D := G.1) hx hb hK.1 hP hD hS 8 0 rfl rfl g61 dX6_setGroup_61 (fun H locs hP hD hS => ?_)
        have hP : va_P G.1 vwCl (CW G q (sA C 2 x1.toNatClampNeg x2)) H := hP
        have hD : va_D A (CW G q (sA C 2 x1.toNatClampNeg x2)) := hD
        obtain ⟨C_4, eC_4, h⟩ := ltv_ex h
        rw [← eC_4] at hP hD
        refine lv_aload_n hx hb dX6_setGroup_62 rfl (lv_at hl 2 rfl) ?_
        refine va_get (D := G.1) (ci := 5) (v := .ref (q 1)) (C := RX6) (T := TX6) (N := 7) hx hb hts in_wsX6_setGroup_X6 hown hK.1 hP 0 rfl rfl 0 (by decide) (w_mem hts 5 rfl) (fun _ h9 => h9) rfl dX6_setGroup_63 ?_
        refine va_getN (D := G.1) (ci := 4) (v := .ref (q 9)) (C := RX5) (T := TX5) (N := 6) hx hb hts in_wsX6_setGroup_X5 hown hK.1 hP 1 rfl rfl 3 (by decide) (hK.2.at 26 rfl) (fun _ h9 => h9) rfl dX6_setGroup_66 ?_
        refine lv_iload_n hx hb dX6_setGroup_69 rfl (lv_at hl 3 rfl) ?_
        refine lv_iload_n hx hb dX6_setGroup_70 rfl (lv_at hl 5 rfl) ?_
        obtain ⟨g71, h⟩ := gd_ex h
        refine va_iast (D := G.1) hx hb hK.1 hP hD hS 9 0 rfl rfl g71 dX6_setGroup_71 (fun H locs hP hD hS => ?_)
        have hP : va_P G.1 vwCl (CW G q (sA C_4 3 x1.toNatClampNeg x3)) H := hP
        have hD : va_D A (CW G q (sA C_4 3 x1.toNatClampNeg x3)) := hD
        obtain ⟨C_5, eC_5, h⟩ := ltv_ex h
        rw [← eC_5] at hP hD
        refine lv_aload_n hx hb dX6_setGroup_72 rfl (lv_at hl 2 rfl) ?_
        obtain ⟨r_6, hr_6, h⟩ := bd_ex h
        refine ro_i (va_runV (As := []) (rest := []) ⟨hx, hb, hml, hown, hts⟩ (kX6_hasCompletion l G q C_5 r_6 hr_6) (cwV 0 hts gX6_setGroup_X6_hasCompletion rfl rfl rfl (by decide +kernel) ⟨Nat.le_of_ble_eq_true rfl, Nat.le_of_ble_eq_true rfl⟩) (roV hP hK 5 0 rfl rfl) rfl rfl hl.1 rfl (lv_room (Nat.le_of_ble_eq_true rfl)) dX6_setGroup_73 ⟨Nat.zero_le _, Nat.zero_le _⟩) ?_
        refine lv_if_ne (tgt := 111) hx hb dX6_setGroup_76 (by decide) (fun c_76 => ?_) (fun c_76 => ?_)
        · have h := br_F h c_76
          refine lv_aload_n hx hb dX6_setGroup_111 rfl (lv_at hl 2 rfl) ?_
          refine va_get (D := G.1) (ci := 5) (v := .ref (q 1)) (C := RX6) (T := TX6) (N := 7) hx hb hts in_wsX6_setGroup_X6 hown hK.1 hP 0 rfl rfl 0 (by decide) (w_mem hts 5 rfl) (fun _ h9 => h9) rfl dX6_setGroup_112 ?_
          refine va_getN (D := G.1) (ci := 4) (v := .ref (q 7)) (C := RX5) (T := TX5) (N := 6) hx hb hts in_wsX6_setGroup_X5 hown hK.1 hP 1 rfl rfl 1 (by decide) (hK.2.at 27 rfl) (fun _ h9 => h9) rfl dX6_setGroup_115 ?_
          refine lv_iload_n hx hb dX6_setGroup_118 rfl (lv_at hl 3 rfl) ?_
          obtain ⟨g119, h⟩ := gd_ex h
          refine va_iald (D := G.1) hx hb hK.1 hP 7 0 rfl rfl g119 dX6_setGroup_119 ?_
          obtain ⟨r_7, hr_7, h⟩ := bd_ex h
          refine ro_i (va_runS (As := [.int (C_5.2 1 x1.toNatClampNeg)]) (rest := []) ⟨hx, hb, hml, hown, hts⟩ (kJ6_bitCount_0f7a4 l (C_5.2 1 x1.toNatClampNeg) r_7 hr_7) (va_cwS 1 hts gX6_setGroup_J6_bitCount_0f7a4 rfl rfl rfl (by decide +kernel) ⟨Nat.le_of_ble_eq_true rfl, Nat.le_of_ble_eq_true rfl⟩) noS rfl rfl hl.1 rfl (lv_room (Nat.le_of_ble_eq_true rfl)) dX6_setGroup_120 ⟨Nat.zero_le _, Nat.zero_le _⟩) ?_
          cases h
        · have h := br_T h c_76
          refine lv_aload_n hx hb dX6_setGroup_79 rfl (lv_at hl 2 rfl) ?_
          refine va_get (D := G.1) (ci := 5) (v := .ref (q 1)) (C := RX6) (T := TX6) (N := 7) hx hb hts in_wsX6_setGroup_X6 hown hK.1 hP 0 rfl rfl 0 (by decide) (w_mem hts 5 rfl) (fun _ h9 => h9) rfl dX6_setGroup_80 ?_
          refine va_getN (D := G.1) (ci := 4) (v := .ref (q 8)) (C := RX5) (T := TX5) (N := 6) hx hb hts in_wsX6_setGroup_X5 hown hK.1 hP 1 rfl rfl 2 (by decide) (hK.2.at 25 rfl) (fun _ h9 => h9) rfl dX6_setGroup_83 ?_
          refine lv_iload_n hx hb dX6_setGroup_86 rfl (lv_at hl 3 rfl) ?_
          refine lv_iload hx hb dX6_setGroup_87 (lv_at hl 1 rfl) ?_
          obtain ⟨g89, h⟩ := gd_ex h
          refine va_iast (D := G.1) hx hb hK.1 hP hD hS 8 0 rfl rfl g89 dX6_setGroup_89 (fun H locs hP hD hS => ?_)
          have hP : va_P G.1 vwCl (CW G q (sA C_5 2 x1.toNatClampNeg v_2)) H := hP
          have hD : va_D A (CW G q (sA C_5 2 x1.toNatClampNeg v_2)) := hD
          obtain ⟨C_8, eC_8, h⟩ := ltv_ex h
          rw [← eC_8] at hP hD
          refine lv_aload_n hx hb dX6_setGroup_90 rfl (lv_at hl 2 rfl) ?_
          refine va_get (D := G.1) (ci := 5) (v := .ref (q 1)) (C := RX6) (T := TX6) (N := 7) hx hb hts in_wsX6_setGroup_X6 hown hK.1 hP 0 rfl rfl 0 (by decide) (w_mem hts 5 rfl) (fun _ h9 => h9) rfl dX6_setGroup_91 ?_
          refine va_getN (D := G.1) (ci := 4) (v := .ref (q 9)) (C := RX5) (T := TX5) (N := 6) hx hb hts in_wsX6_setGroup_X5 hown hK.1 hP 1 rfl rfl 3 (by decide) (hK.2.at 26 rfl) (fun _ h9 => h9) rfl dX6_setGroup_94 ?_
          refine lv_iload_n hx hb dX6_setGroup_97 rfl (lv_at hl 3 rfl) ?_
          refine lv_iload hx hb dX6_setGroup_98 (lv_at hl 0 rfl) ?_
          obtain ⟨g100, h⟩ := gd_ex h
          refine va_iast (D := G.1) hx hb hK.1 hP hD hS 9 0 rfl rfl g100 dX6_setGroup_100 (fun H locs hP hD hS => ?_)
          have hP : va_P G.1 vwCl (CW G q (sA C_8 3 x1.toNatClampNeg v_3)) H := hP
          have hD : va_D A (CW G q (sA C_8 3 x1.toNatClampNeg v_3)) := hD
          obtain ⟨C_9, eC_9, h⟩ := ltv_ex h
          rw [← eC_9] at hP hD
          exact x_throwS (Wd := CW G q) (C := C_9) (k := 4) (cls := "java/lang/UnsupportedOperationException") (text := "there would be no completion") hx hb hl0 hts hown hml hlocks hex hK hE hP hS hl (by decide +kernel) (w_mem hts 3 rfl) (w_mem hts 4 rfl) (List.mem_of_getElem? (i := 2) rfl) (fun w h => List.mem_cons_of_mem _ (List.mem_append_left _ (List.mem_append_right _ h))) xB_86 xG_86_82 dX6_setGroup_101 dX6_setGroup_104 dX6_setGroup_105 dX6_setGroup_107 dX6_setGroup_110 ⟨Nat.le_of_ble_eq_true rfl, Nat.le_of_ble_eq_true rfl, Nat.le_of_ble_eq_true rfl, Nat.le_of_ble_eq_true rfl⟩ ((xl_ h).symm) rfl
      · have h := br_F h c_17
        exact xX6_setGroup_20 bx hA hK hl0 hE hex C h hP hD hS _ (lv_sub hl [] rfl)

def rmX6_require : Room := { frames := 19, cells := 0, slots := 0, locals := 478 }

set_option maxHeartbeats 4000000 in
set_option maxRecDepth 100000 in
theorem kX6_require (l : Launch) (G : GT) (q : Nat → Nat) (C : St) (sz : Nat) (x1 : Int32) (x2 : Int32) (r : Int32 × St) (h : pX6_require C x1 x2 = some (.inr r)) : Met l yX6_require wsX6_require rmX6_require (va_Pc [.ref (q 0), .int x1, .int x2] (wrP G (CW G q C) sz)) (va_Qi (fun v u => (v, u) = r) (fun u t => va_P G.1 vwCl (CW G q u) t.heap) (va_A (CW G q C) sz)) 0 0 (va_A (CW G q C) sz) := by
  refine Met.ofW (cc := cX6_require) (maxL := 3) (ret := (some .int)) (by decide) rfl ?_
  intro p e s m args below meth c s₁ B hml hv
  obtain ⟨rfl, hsz, hP, hK, hD0⟩ := hv
  have bx := bx_of B hml
  subst hsz
  have hD := hD0.self (sz := s.heap.size)
  generalize hAe : va_A (CW G q C) s.heap.size = A at hD ⊢
  have hA : ∀ q : Nat, s.heap.size ≤ q → A q := fun q h => by rw [← hAe]; exact Or.inr h
  have hS : va_S A s.heap s.heap [] := va_S.rf
  obtain ⟨hx, hb, hr, hts, hown, hml, hlocks⟩ := id bx
  have hl := lv_entry ([.ref (q 0), .int x1, .int x2]) (n := 3) (Nat.le_of_ble_eq_true rfl)
  rw [lg_entry_eq]
  generalize (lg_sl ([.ref (q 0), .int x1, .int x2]) ++ List.replicate (3 - (lg_sl ([.ref (q 0), .int x1, .int x2])).length) Slot.unset).toArray = ls at hl ⊢
  have hl : lv_has ls 3 [(0, .ref (q 0)), (1, .int x1), (2, .int x2)] := hl
  show W p l e rmX6_require s m _ below meth c s.heap [] 0 0 (MQi G (CW G q) A s _ below r) (F0 m 0 ls [])
  unfold pX6_require at h
  refine lv_aload_n hx hb dX6_require_0 rfl (lv_at hl 0 rfl) ?_
  refine lv_iload_n hx hb dX6_require_1 rfl (lv_at hl 1 rfl) ?_
  obtain ⟨r_1, hr_1, h⟩ := tb_N h
  refine ro_v (va_runV (As := [.int x1]) (rest := []) ⟨hx, hb, hml, hown, hts⟩ (kX6_checkFeature l G q C x1 r_1 hr_1) (cwV 1 hts gX6_require_X6_checkFeature rfl rfl rfl (by decide +kernel) ⟨Nat.le_of_ble_eq_true rfl, Nat.le_of_ble_eq_true rfl⟩) (roV hP hK 5 0 rfl rfl) rfl rfl hl.1 rfl (lv_room (Nat.le_of_ble_eq_true rfl)) dX6_require_2 ⟨Nat.zero_le _, Nat.zero_le _⟩) ?_
  refine lv_aload_n hx hb dX6_require_5 rfl (lv_at hl 0 rfl) ?_
  refine lv_iload_n hx hb dX6_require_6 rfl (lv_at hl 2 rfl) ?_
  obtain ⟨r_2, hr_2, h⟩ := tb_N h
  refine ro_v (va_runV (As := [.int x2]) (rest := []) ⟨hx, hb, hml, hown, hts⟩ (kX6_checkFeature l G q C x2 r_2 hr_2) (cwV 1 hts gX6_require_X6_checkFeature rfl rfl rfl (by decide +kernel) ⟨Nat.le_of_ble_eq_true rfl, Nat.le_of_ble_eq_true rfl⟩) (roV hP hK 5 0 rfl rfl) rfl rfl hl.1 rfl (lv_room (Nat.le_of_ble_eq_true rfl)) dX6_require_7 ⟨Nat.zero_le _, Nat.zero_le _⟩) ?_
  refine lv_aload_n hx hb dX6_require_10 rfl (lv_at hl 0 rfl) ?_
  refine lv_iload_n hx hb dX6_require_11 rfl (lv_at hl 1 rfl) ?_
  refine lv_iload_n hx hb dX6_require_12 rfl (lv_at hl 2 rfl) ?_
  obtain ⟨r_3, hr_3, h⟩ := tb_N h
  refine ro_v (va_runV (As := [.int x1, .int x2]) (rest := []) ⟨hx, hb, hml, hown, hts⟩ (kX6_checkDifferent l G q C x1 x2 r_3 hr_3) (cwV 2 hts gX6_require_X6_checkDifferent rfl rfl rfl (by decide +kernel) ⟨Nat.le_of_ble_eq_true rfl, Nat.le_of_ble_eq_true rfl⟩) (roV hP hK 5 0 rfl rfl) rfl rfl hl.1 rfl (lv_room (Nat.le_of_ble_eq_true rfl)) dX6_require_13 ⟨Nat.zero_le _, Nat.zero_le _⟩) ?_
  refine lv_aload_n hx hb dX6_require_16 rfl (lv_at hl 0 rfl) ?_
  refine lv_iconst (v := 1) hx hb dX6_require_17 (by decide) ?_
  refine lv_iload_n hx hb dX6_require_18 rfl (lv_at hl 2 rfl) ?_
  refine lv_ishl hx hb dX6_require_19 ?_
  refine lv_iconst (v := 1) hx hb dX6_require_20 (by decide) ?_
  refine lv_iload_n hx hb dX6_require_21 rfl (lv_at hl 1 rfl) ?_
  refine lv_ishl hx hb dX6_require_22 ?_
  refine lv_iload_n hx hb dX6_require_23 rfl (lv_at hl 1 rfl) ?_
  refine lv_iload_n hx hb dX6_require_24 rfl (lv_at hl 2 rfl) ?_
  refine va_mmax hx hb (hml.trans hl.1.symm) hown (w_mem hts 1 rfl) (w_mem hts 2 rfl) (w_mem hts 3 rfl) (w_mem hts 4 rfl) (Nat.le_of_ble_eq_true rfl) (Nat.le_of_ble_eq_true rfl) (Nat.zero_le _) (Nat.zero_le _) dX6_require_25 ?_
  obtain ⟨u_4, hu_4, h⟩ := tb_N h
  refine wr_i (Wd := CW G q) (va_runV (As := [.int ((1 : Int32) <<< (x2 &&& 31)), .int ((1 : Int32) <<< (x1 &&& 31)), .int (if x1 < x2 then x2 else x1)]) (rest := []) ⟨hx, hb, hml, hown, hts⟩ (kX6_addRule l G q C _ ((1 : Int32) <<< (x2 &&& 31)) ((1 : Int32) <<< (x1 &&& 31)) (if x1 < x2 then x2 else x1) u_4 hu_4) (cwV 3 hts gX6_require_X6_addRule rfl rfl rfl (by decide +kernel) ⟨Nat.le_of_ble_eq_true rfl, Nat.le_of_ble_eq_true rfl⟩) (wrV hP hD hK 5 0 rfl rfl) rfl rfl hl.1 rfl (lv_room (Nat.le_of_ble_eq_true rfl)) dX6_require_28 ⟨Nat.zero_le _, Nat.zero_le _⟩) hD hS hA (fun _ => rfl) (fun H locs hP hD hS => ?_)
  exact MQi.end hx hb hr hlocks hP hS dX6_require_31 rfl (nn_ h)

def rxX6_require : Room := { frames := 19, cells := 1, slots := 6, locals := 478 }

set_option maxHeartbeats 4000000 in
set_option maxRecDepth 100000 in
theorem xX6_require (l : Launch) (hl0 : l.stackTraces = false) (G : GT) (q : Nat → Nat) (C : St) (sz : Nat) (x1 : Int32) (x2 : Int32) (r : Nat × St) (h : pX6_require C x1 x2 = some (.inl r)) : vx_Met l yX6_require wsX6_require rxX6_require (va_Pc [.ref (q 0), .int x1, .int x2] (xP G (CW G q C) sz)) (fun _ _ _ _ => False) (XCf G (CW G q) (va_A (CW G q C) sz) r) 1 6 (va_A (CW G q C) sz) := by
  refine vx_ofW (cc := cX6_require) (maxL := 3) (ret := (some .int)) (by decide) rfl ?_
  intro p e s m args below meth c s₁ B hml hex hv
  obtain ⟨rfl, ⟨hsz, hP, hK, hD0⟩, hE⟩ := hv
  have bx := bx_of B hml
  subst hsz
  have hD := hD0.self (sz := s.heap.size)
  generalize hAe : va_A (CW G q C) s.heap.size = A at hD hE ⊢
  have hA : ∀ q : Nat, s.heap.size ≤ q → A q := fun q h => by rw [← hAe]; exact Or.inr h
  have hS : va_S A s.heap s.heap [] := va_S.rf
  obtain ⟨hx, hb, hr, hts, hown, hml, hlocks⟩ := id bx
  have hl := lv_entry ([.ref (q 0), .int x1, .int x2]) (n := 3) (Nat.le_of_ble_eq_true rfl)
  rw [lg_entry_eq]
  generalize (lg_sl ([.ref (q 0), .int x1, .int x2]) ++ List.replicate (3 - (lg_sl ([.ref (q 0), .int x1, .int x2])).length) Slot.unset).toArray = ls at hl ⊢
  have hl : lv_has ls 3 [(0, .ref (q 0)), (1, .int x1), (2, .int x2)] := hl
  show W p l e rxX6_require s m _ below meth c s.heap [] 0 0 (MQx G (CW G q) A s _ below r) (F0 m 0 ls [])
  unfold pX6_require at h
  refine lv_aload_n hx hb dX6_require_0 rfl (lv_at hl 0 rfl) ?_
  refine lv_iload_n hx hb dX6_require_1 rfl (lv_at hl 1 rfl) ?_
  rcases tb_X h with ⟨er_1, hr_1, h⟩ | ⟨r_1, hr_1, h⟩
  · exact x_prop (Wd := CW G q) (vx_runV (As := [.int x1]) (rest := []) ⟨hx, hb, hml, hown, hts⟩ (xX6_checkFeature l hl0 G q C _ x1 er_1 hr_1) (cwV 1 hts gX6_require_X6_checkFeature rfl rfl rfl (by decide +kernel) ⟨Nat.le_of_ble_eq_true rfl, Nat.le_of_ble_eq_true rfl⟩) (xV hP hD hS hK hA hE 5 0 rfl rfl) rfl rfl hl.1 rfl (lv_room (Nat.le_of_ble_eq_true rfl)) dX6_require_2 ⟨Nat.le_of_ble_eq_true rfl, Nat.le_of_ble_eq_true rfl⟩) hD hS hA (fun _ => rfl) hex hlocks h
  refine ro_v (va_runV (As := [.int x1]) (rest := []) ⟨hx, hb, hml, hown, hts⟩ (kX6_checkFeature l G q C x1 r_1 hr_1) (cwV 1 hts gX6_require_X6_checkFeature rfl rfl rfl (by decide +kernel) ⟨Nat.le_of_ble_eq_true rfl, Nat.le_of_ble_eq_true rfl⟩) (roV hP hK 5 0 rfl rfl) rfl rfl hl.1 rfl (lv_room (Nat.le_of_ble_eq_true rfl)) dX6_require_2 ⟨Nat.zero_le _, Nat.zero_le _⟩) ?_
  refine lv_aload_n hx hb dX6_require_5 rfl (lv_at hl 0 rfl) ?_
  refine lv_iload_n hx hb dX6_require_6 rfl (lv_at hl 2 rfl) ?_
  rcases tb_X h with ⟨er_2, hr_2, h⟩ | ⟨r_2, hr_2, h⟩
  · exact x_prop (Wd := CW G q) (vx_runV (As := [.int x2]) (rest := []) ⟨hx, hb, hml, hown, hts⟩ (xX6_checkFeature l hl0 G q C _ x2 er_2 hr_2) (cwV 1 hts gX6_require_X6_checkFeature rfl rfl rfl (by decide +kernel) ⟨Nat.le_of_ble_eq_true rfl, Nat.le_of_ble_eq_true rfl⟩) (xV hP hD hS hK hA hE 5 0 rfl rfl) rfl rfl hl.1 rfl (lv_room (Nat.le_of_ble_eq_true rfl)) dX6_require_7 ⟨Nat.le_of_ble_eq_true rfl, Nat.le_of_ble_eq_true rfl⟩) hD hS hA (fun _ => rfl) hex hlocks h
  refine ro_v (va_runV (As := [.int x2]) (rest := []) ⟨hx, hb, hml, hown, hts⟩ (kX6_checkFeature l G q C x2 r_2 hr_2) (cwV 1 hts gX6_require_X6_checkFeature rfl rfl rfl (by decide +kernel) ⟨Nat.le_of_ble_eq_true rfl, Nat.le_of_ble_eq_true rfl⟩) (roV hP hK 5 0 rfl rfl) rfl rfl hl.1 rfl (lv_room (Nat.le_of_ble_eq_true rfl)) dX6_require_7 ⟨Nat.zero_le _, Nat.zero_le _⟩) ?_
  refine lv_aload_n hx hb dX6_require_10 rfl (lv_at hl 0 rfl) ?_
  refine lv_iload_n hx hb dX6_require_11 rfl (lv_at hl 1 rfl) ?_
  refine lv_iload_n hx hb dX6_require_12 rfl (lv_at hl 2 rfl) ?_
  rcases tb_X h with ⟨er_3, hr_3, h⟩ | ⟨r_3, hr_3, h⟩
  · exact x_prop (Wd := CW G q) (vx_runV (As := [.int x1, .int x2]) (rest := []) ⟨hx, hb, hml, hown, hts⟩ (xX6_checkDifferent l hl0 G q C _ x1 x2 er_3 hr_3) (cwV 2 hts gX6_require_X6_checkDifferent rfl rfl rfl (by decide +kernel) ⟨Nat.le_of_ble_eq_true rfl, Nat.le_of_ble_eq_true rfl⟩) (xV hP hD hS hK hA hE 5 0 rfl rfl) rfl rfl hl.1 rfl (lv_room (Nat.le_of_ble_eq_true rfl)) dX6_require_13 ⟨Nat.le_of_ble_eq_true rfl, Nat.le_of_ble_eq_true rfl⟩) hD hS hA (fun _ => rfl) hex hlocks h
  refine ro_v (va_runV (As := [.int x1, .int x2]) (rest := []) ⟨hx, hb, hml, hown, hts⟩ (kX6_checkDifferent l G q C x1 x2 r_3 hr_3) (cwV 2 hts gX6_require_X6_checkDifferent rfl rfl rfl (by decide +kernel) ⟨Nat.le_of_ble_eq_true rfl, Nat.le_of_ble_eq_true rfl⟩) (roV hP hK 5 0 rfl rfl) rfl rfl hl.1 rfl (lv_room (Nat.le_of_ble_eq_true rfl)) dX6_require_13 ⟨Nat.zero_le _, Nat.zero_le _⟩) ?_
  refine lv_aload_n hx hb dX6_require_16 rfl (lv_at hl 0 rfl) ?_
  refine lv_iconst (v := 1) hx hb dX6_require_17 (by decide) ?_
  refine lv_iload_n hx hb dX6_require_18 rfl (lv_at hl 2 rfl) ?_
  refine lv_ishl hx hb dX6_require_19 ?_
  refine lv_iconst (v := 1) hx hb dX6_require_20 (by decide) ?_
  refine lv_iload_n hx hb dX6_require_21 rfl (lv_at hl 1 rfl) ?_
  refine lv_ishl hx hb dX6_require_22 ?_
  refine lv_iload_n hx hb dX6_require_23 rfl (lv_at hl 1 rfl) ?_
  refine lv_iload_n hx hb dX6_require_24 rfl (lv_at hl 2 rfl) ?_
  refine va_mmax hx hb (hml.trans hl.1.symm) hown (w_mem hts 1 rfl) (w_mem hts 2 rfl) (w_mem hts 3 rfl) (w_mem hts 4 rfl) (Nat.le_of_ble_eq_true rfl) (Nat.le_of_ble_eq_true rfl) (Nat.zero_le _) (Nat.zero_le _) dX6_require_25 ?_
  rcases tb_X h with ⟨eu_4, hu_4, h⟩ | ⟨u_4, hu_4, h⟩
  · exact x_prop (Wd := CW G q) (vx_runV (As := [.int ((1 : Int32) <<< (x2 &&& 31)), .int ((1 : Int32) <<< (x1 &&& 31)), .int (if x1 < x2 then x2 else x1)]) (rest := []) ⟨hx, hb, hml, hown, hts⟩ (xX6_addRule l hl0 G q C _ ((1 : Int32) <<< (x2 &&& 31)) ((1 : Int32) <<< (x1 &&& 31)) (if x1 < x2 then x2 else x1) eu_4 hu_4) (cwV 3 hts gX6_require_X6_addRule rfl rfl rfl (by decide +kernel) ⟨Nat.le_of_ble_eq_true rfl, Nat.le_of_ble_eq_true rfl⟩) (xV hP hD hS hK hA hE 5 0 rfl rfl) rfl rfl hl.1 rfl (lv_room (Nat.le_of_ble_eq_true rfl)) dX6_require_28 ⟨Nat.le_of_ble_eq_true rfl, Nat.le_of_ble_eq_true rfl⟩) hD hS hA (fun _ => rfl) hex hlocks h
  refine wr_i (Wd := CW G q) (va_runV (As := [.int ((1 : Int32) <<< (x2 &&& 31)), .int ((1 : Int32) <<< (x1 &&& 31)), .int (if x1 < x2 then x2 else x1)]) (rest := []) ⟨hx, hb, hml, hown, hts⟩ (kX6_addRule l G q C _ ((1 : Int32) <<< (x2 &&& 31)) ((1 : Int32) <<< (x1 &&& 31)) (if x1 < x2 then x2 else x1) u_4 hu_4) (cwV 3 hts gX6_require_X6_addRule rfl rfl rfl (by decide +kernel) ⟨Nat.le_of_ble_eq_true rfl, Nat.le_of_ble_eq_true rfl⟩) (wrV hP hD hK 5 0 rfl rfl) rfl rfl hl.1 rfl (lv_room (Nat.le_of_ble_eq_true rfl)) dX6_require_28 ⟨Nat.zero_le _, Nat.zero_le _⟩) hD hS hA (fun _ => rfl) (fun H locs hP hD hS => ?_)
  cases h

def rmX6_exclude : Room := { frames := 19, cells := 0, slots := 0, locals := 478 }

set_option maxHeartbeats 4000000 in
set_option maxRecDepth 100000 in
theorem kX6_exclude (l : Launch) (G : GT) (q : Nat → Nat) (C : St) (sz : Nat) (x1 : Int32) (x2 : Int32) (r : Int32 × St) (h : pX6_exclude C x1 x2 = some (.inr r)) : Met l yX6_exclude wsX6_exclude rmX6_exclude (va_Pc [.ref (q 0), .int x1, .int x2] (wrP G (CW G q C) sz)) (va_Qi (fun v u => (v, u) = r) (fun u t => va_P G.1 vwCl (CW G q u) t.heap) (va_A (CW G q C) sz)) 0 0 (va_A (CW G q C) sz) := by
  refine Met.ofW (cc := cX6_exclude) (maxL := 3) (ret := (some .int)) (by decide) rfl ?_
  intro p e s m args below meth c s₁ B hml hv
  obtain ⟨rfl, hsz, hP, hK, hD0⟩ := hv
  have bx := bx_of B hml
  subst hsz
  have hD := hD0.self (sz := s.heap.size)
  generalize hAe : va_A (CW G q C) s.heap.size = A at hD ⊢
  have hA : ∀ q : Nat, s.heap.size ≤ q → A q := fun q h => by rw [← hAe]; exact Or.inr h
  have hS : va_S A s.heap s.heap [] := va_S.rf
  obtain ⟨hx, hb, hr, hts, hown, hml, hlocks⟩ := id bx
  have hl := lv_entry ([.ref (q 0), .int x1, .int x2]) (n := 3) (Nat.le_of_ble_eq_true rfl)
  rw [lg_entry_eq]
  generalize (lg_sl ([.ref (q 0), .int x1, .int x2]) ++ List.replicate (3 - (lg_sl ([.ref (q 0), .int x1, .int x2])).length) Slot.unset).toArray = ls at hl ⊢
  have hl : lv_has ls 3 [(0, .ref (q 0)), (1, .int x1), (2, .int x2)] := hl
  show W p l e rmX6_exclude s m _ below meth c s.heap [] 0 0 (MQi G (CW G q) A s _ below r) (F0 m 0 ls [])
  unfold pX6_exclude at h
  refine lv_aload_n hx hb dX6_exclude_0 rfl (lv_at hl 0 rfl) ?_
  refine lv_iload_n hx hb dX6_exclude_1 rfl (lv_at hl 1 rfl) ?_
  obtain ⟨r_1, hr_1, h⟩ := tb_N h
  refine ro_v (va_runV (As := [.int x1]) (rest := []) ⟨hx, hb, hml, hown, hts⟩ (kX6_checkFeature l G q C x1 r_1 hr_1) (cwV 1 hts gX6_exclude_X6_checkFeature rfl rfl rfl (by decide +kernel) ⟨Nat.le_of_ble_eq_true rfl, Nat.le_of_ble_eq_true rfl⟩) (roV hP hK 5 0 rfl rfl) rfl rfl hl.1 rfl (lv_room (Nat.le_of_ble_eq_true rfl)) dX6_exclude_2 ⟨Nat.zero_le _, Nat.zero_le _⟩) ?_
  refine lv_aload_n hx hb dX6_exclude_5 rfl (lv_at hl 0 rfl) ?_
  refine lv_iload_n hx hb dX6_exclude_6 rfl (lv_at hl 2 rfl) ?_
  obtain ⟨r_2, hr_2, h⟩ := tb_N h
  refine ro_v (va_runV (As := [.int x2]) (rest := []) ⟨hx, hb, hml, hown, hts⟩ (kX6_checkFeature l G q C x2 r_2 hr_2) (cwV 1 hts gX6_exclude_X6_checkFeature rfl rfl rfl (by decide +kernel) ⟨Nat.le_of_ble_eq_true rfl, Nat.le_of_ble_eq_true rfl⟩) (roV hP hK 5 0 rfl rfl) rfl rfl hl.1 rfl (lv_room (Nat.le_of_ble_eq_true rfl)) dX6_exclude_7 ⟨Nat.zero_le _, Nat.zero_le _⟩) ?_
  refine lv_aload_n hx hb dX6_exclude_10 rfl (lv_at hl 0 rfl) ?_
  refine lv_iload_n hx hb dX6_exclude_11 rfl (lv_at hl 1 rfl) ?_
  refine lv_iload_n hx hb dX6_exclude_12 rfl (lv_at hl 2 rfl) ?_
  obtain ⟨r_3, hr_3, h⟩ := tb_N h
  refine ro_v (va_runV (As := [.int x1, .int x2]) (rest := []) ⟨hx, hb, hml, hown, hts⟩ (kX6_checkDifferent l G q C x1 x2 r_3 hr_3) (cwV 2 hts gX6_exclude_X6_checkDifferent rfl rfl rfl (by decide +kernel) ⟨Nat.le_of_ble_eq_true rfl, Nat.le_of_ble_eq_true rfl⟩) (roV hP hK 5 0 rfl rfl) rfl rfl hl.1 rfl (lv_room (Nat.le_of_ble_eq_true rfl)) dX6_exclude_13 ⟨Nat.zero_le _, Nat.zero_le _⟩) ?_
  refine lv_aload_n hx hb dX6_exclude_16 rfl (lv_at hl 0 rfl) ?_
  refine lv_iconst (v := 0) hx hb dX6_exclude_17 (by decide) ?_
  refine lv_iconst (v := 1) hx hb dX6_exclude_18 (by decide) ?_
  refine lv_iload_n hx hb dX6_exclude_19 rfl (lv_at hl 1 rfl) ?_
  refine lv_ishl hx hb dX6_exclude_20 ?_
  refine lv_iconst (v := 1) hx hb dX6_exclude_21 (by decide) ?_
  refine lv_iload_n hx hb dX6_exclude_22 rfl (lv_at hl 2 rfl) ?_
  refine lv_ishl hx hb dX6_exclude_23 ?_
  refine lv_ior hx hb dX6_exclude_24 ?_
  refine lv_iload_n hx hb dX6_exclude_25 rfl (lv_at hl 1 rfl) ?_
  refine lv_iload_n hx hb dX6_exclude_26 rfl (lv_at hl 2 rfl) ?_
  refine va_mmax hx hb (hml.trans hl.1.symm) hown (w_mem hts 1 rfl) (w_mem hts 2 rfl) (w_mem hts 3 rfl) (w_mem hts 4 rfl) (Nat.le_of_ble_eq_true rfl) (Nat.le_of_ble_eq_true rfl) (Nat.zero_le _) (Nat.zero_le _) dX6_exclude_27 ?_
  obtain ⟨u_4, hu_4, h⟩ := tb_N h
  refine wr_i (Wd := CW G q) (va_runV (As := [.int 0, .int (((1 : Int32) <<< (x1 &&& 31)) ||| ((1 : Int32) <<< (x2 &&& 31))), .int (if x1 < x2 then x2 else x1)]) (rest := []) ⟨hx, hb, hml, hown, hts⟩ (kX6_addRule l G q C _ 0 (((1 : Int32) <<< (x1 &&& 31)) ||| ((1 : Int32) <<< (x2 &&& 31))) (if x1 < x2 then x2 else x1) u_4 hu_4) (cwV 3 hts gX6_exclude_X6_addRule rfl rfl rfl (by decide +kernel) ⟨Nat.le_of_ble_eq_true rfl, Nat.le_of_ble_eq_true rfl⟩) (wrV hP hD hK 5 0 rfl rfl) rfl rfl hl.1 rfl (lv_room (Nat.le_of_ble_eq_true rfl)) dX6_exclude_30 ⟨Nat.zero_le _, Nat.zero_le _⟩) hD hS hA (fun _ => rfl) (fun H locs hP hD hS => ?_)
  exact MQi.end hx hb hr hlocks hP hS dX6_exclude_33 rfl (nn_ h)

def rxX6_exclude : Room := { frames := 19, cells := 1, slots := 6, locals := 478 }

set_option maxHeartbeats 4000000 in
set_option maxRecDepth 100000 in
theorem xX6_exclude (l : Launch) (hl0 : l.stackTraces = false) (G : GT) (q : Nat → Nat) (C : St) (sz : Nat) (x1 : Int32) (x2 : Int32) (r : Nat × St) (h : pX6_exclude C x1 x2 = some (.inl r)) : vx_Met l yX6_exclude wsX6_exclude rxX6_exclude (va_Pc [.ref (q 0), .int x1, .int x2] (xP G (CW G q C) sz)) (fun _ _ _ _ => False) (XCf G (CW G q) (va_A (CW G q C) sz) r) 1 6 (va_A (CW G q C) sz) := by
  refine vx_ofW (cc := cX6_exclude) (maxL := 3) (ret := (some .int)) (by decide) rfl ?_
  intro p e s m args below meth c s₁ B hml hex hv
  obtain ⟨rfl, ⟨hsz, hP, hK, hD0⟩, hE⟩ := hv
  have bx := bx_of B hml
  subst hsz
  have hD := hD0.self (sz := s.heap.size)
  generalize hAe : va_A (CW G q C) s.heap.size = A at hD hE ⊢
  have hA : ∀ q : Nat, s.heap.size ≤ q → A q := fun q h => by rw [← hAe]; exact Or.inr h
  have hS : va_S A s.heap s.heap [] := va_S.rf
  obtain ⟨hx, hb, hr, hts, hown, hml, hlocks⟩ := id bx
  have hl := lv_entry ([.ref (q 0), .int x1, .int x2]) (n := 3) (Nat.le_of_ble_eq_true rfl)
  rw [lg_entry_eq]
  generalize (lg_sl ([.ref (q 0), .int x1, .int x2]) ++ List.replicate (3 - (lg_sl ([.ref (q 0), .int x1, .int x2])).length) Slot.unset).toArray = ls at hl ⊢
  have hl : lv_has ls 3 [(0, .ref (q 0)), (1, .int x1), (2, .int x2)] := hl
  show W p l e rxX6_exclude s m _ below meth c s.heap [] 0 0 (MQx G (CW G q) A s _ below r) (F0 m 0 ls [])
  unfold pX6_exclude at h
  refine lv_aload_n hx hb dX6_exclude_0 rfl (lv_at hl 0 rfl) ?_
  refine lv_iload_n hx hb dX6_exclude_1 rfl (lv_at hl 1 rfl) ?_
  rcases tb_X h with ⟨er_1, hr_1, h⟩ | ⟨r_1, hr_1, h⟩
  · exact x_prop (Wd := CW G q) (vx_runV (As := [.int x1]) (rest := []) ⟨hx, hb, hml, hown, hts⟩ (xX6_checkFeature l hl0 G q C _ x1 er_1 hr_1) (cwV 1 hts gX6_exclude_X6_checkFeature rfl rfl rfl (by decide +kernel) ⟨Nat.le_of_ble_eq_true rfl, Nat.le_of_ble_eq_true rfl⟩) (xV hP hD hS hK hA hE 5 0 rfl rfl) rfl rfl hl.1 rfl (lv_room (Nat.le_of_ble_eq_true rfl)) dX6_exclude_2 ⟨Nat.le_of_ble_eq_true rfl, Nat.le_of_ble_eq_true rfl⟩) hD hS hA (fun _ => rfl) hex hlocks h
  refine ro_v (va_runV (As := [.int x1]) (rest := []) ⟨hx, hb, hml, hown, hts⟩ (kX6_checkFeature l G q C x1 r_1 hr_1) (cwV 1 hts gX6_exclude_X6_checkFeature rfl rfl rfl (by decide +kernel) ⟨Nat.le_of_ble_eq_true rfl, Nat.le_of_ble_eq_true rfl⟩) (roV hP hK 5 0 rfl rfl) rfl rfl hl.1 rfl (lv_room (Nat.le_of_ble_eq_true rfl)) dX6_exclude_2 ⟨Nat.zero_le _, Nat.zero_le _⟩) ?_
  refine lv_aload_n hx hb dX6_exclude_5 rfl (lv_at hl 0 rfl) ?_
  refine lv_iload_n hx hb dX6_exclude_6 rfl (lv_at hl 2 rfl) ?_
  rcases tb_X h with ⟨er_2, hr_2, h⟩ | ⟨r_2, hr_2, h⟩
  · exact x_prop (Wd := CW G q) (vx_runV (As := [.int x2]) (rest := []) ⟨hx, hb, hml, hown, hts⟩ (xX6_checkFeature l hl0 G q C _ x2 er_2 hr_2) (cwV 1 hts gX6_exclude_X6_checkFeature rfl rfl rfl (by decide +kernel) ⟨Nat.le_of_ble_eq_true rfl, Nat.le_of_ble_eq_true rfl⟩) (xV hP hD hS hK hA hE 5 0 rfl rfl) rfl rfl hl.1 rfl (lv_room (Nat.le_of_ble_eq_true rfl)) dX6_exclude_7 ⟨Nat.le_of_ble_eq_true rfl, Nat.le_of_ble_eq_true rfl⟩) hD hS hA (fun _ => rfl) hex hlocks h
  refine ro_v (va_runV (As := [.int x2]) (rest := []) ⟨hx, hb, hml, hown, hts⟩ (kX6_checkFeature l G q C x2 r_2 hr_2) (cwV 1 hts gX6_exclude_X6_checkFeature rfl rfl rfl (by decide +kernel) ⟨Nat.le_of_ble_eq_true rfl, Nat.le_of_ble_eq_true rfl⟩) (roV hP hK 5 0 rfl rfl) rfl rfl hl.1 rfl (lv_room (Nat.le_of_ble_eq_true rfl)) dX6_exclude_7 ⟨Nat.zero_le _, Nat.zero_le _⟩) ?_
  refine lv_aload_n hx hb dX6_exclude_10 rfl (lv_at hl 0 rfl) ?_
  refine lv_iload_n hx hb dX6_exclude_11 rfl (lv_at hl 1 rfl) ?_
  refine lv_iload_n hx hb dX6_exclude_12 rfl (lv_at hl 2 rfl) ?_
  rcases tb_X h with ⟨er_3, hr_3, h⟩ | ⟨r_3, hr_3, h⟩
  · exact x_prop (Wd := CW G q) (vx_runV (As := [.int x1, .int x2]) (rest := []) ⟨hx, hb, hml, hown, hts⟩ (xX6_checkDifferent l hl0 G q C _ x1 x2 er_3 hr_3) (cwV 2 hts gX6_exclude_X6_checkDifferent rfl rfl rfl (by decide +kernel) ⟨Nat.le_of_ble_eq_true rfl, Nat.le_of_ble_eq_true rfl⟩) (xV hP hD hS hK hA hE 5 0 rfl rfl) rfl rfl hl.1 rfl (lv_room (Nat.le_of_ble_eq_true rfl)) dX6_exclude_13 ⟨Nat.le_of_ble_eq_true rfl, Nat.le_of_ble_eq_true rfl⟩) hD hS hA (fun _ => rfl) hex hlocks h
  refine ro_v (va_runV (As := [.int x1, .int x2]) (rest := []) ⟨hx, hb, hml, hown, hts⟩ (kX6_checkDifferent l G q C x1 x2 r_3 hr_3) (cwV 2 hts gX6_exclude_X6_checkDifferent rfl rfl rfl (by decide +kernel) ⟨Nat.le_of_ble_eq_true rfl, Nat.le_of_ble_eq_true rfl⟩) (roV hP hK 5 0 rfl rfl) rfl rfl hl.1 rfl (lv_room (Nat.le_of_ble_eq_true rfl)) dX6_exclude_13 ⟨Nat.zero_le _, Nat.zero_le _⟩) ?_
  refine lv_aload_n hx hb dX6_exclude_16 rfl (lv_at hl 0 rfl) ?_
  refine lv_iconst (v := 0) hx hb dX6_exclude_17 (by decide) ?_
  refine lv_iconst (v := 1) hx hb dX6_exclude_18 (by decide) ?_
  refine lv_iload_n hx hb dX6_exclude_19 rfl (lv_at hl 1 rfl) ?_
  refine lv_ishl hx hb dX6_exclude_20 ?_
  refine lv_iconst (v := 1) hx hb dX6_exclude_21 (by decide) ?_
  refine lv_iload_n hx hb dX6_exclude_22 rfl (lv_at hl 2 rfl) ?_
  refine lv_ishl hx hb dX6_exclude_23 ?_
  refine lv_ior hx hb dX6_exclude_24 ?_
  refine lv_iload_n hx hb dX6_exclude_25 rfl (lv_at hl 1 rfl) ?_
  refine lv_iload_n hx hb dX6_exclude_26 rfl (lv_at hl 2 rfl) ?_
  refine va_mmax hx hb (hml.trans hl.1.symm) hown (w_mem hts 1 rfl) (w_mem hts 2 rfl) (w_mem hts 3 rfl) (w_mem hts 4 rfl) (Nat.le_of_ble_eq_true rfl) (Nat.le_of_ble_eq_true rfl) (Nat.zero_le _) (Nat.zero_le _) dX6_exclude_27 ?_
  rcases tb_X h with ⟨eu_4, hu_4, h⟩ | ⟨u_4, hu_4, h⟩
  · exact x_prop (Wd := CW G q) (vx_runV (As := [.int 0, .int (((1 : Int32) <<< (x1 &&& 31)) ||| ((1 : Int32) <<< (x2 &&& 31))), .int (if x1 < x2 then x2 else x1)]) (rest := []) ⟨hx, hb, hml, hown, hts⟩ (xX6_addRule l hl0 G q C _ 0 (((1 : Int32) <<< (x1 &&& 31)) ||| ((1 : Int32) <<< (x2 &&& 31))) (if x1 < x2 then x2 else x1) eu_4 hu_4) (cwV 3 hts gX6_exclude_X6_addRule rfl rfl rfl (by decide +kernel) ⟨Nat.le_of_ble_eq_true rfl, Nat.le_of_ble_eq_true rfl⟩) (xV hP hD hS hK hA hE 5 0 rfl rfl) rfl rfl hl.1 rfl (lv_room (Nat.le_of_ble_eq_true rfl)) dX6_exclude_30 ⟨Nat.le_of_ble_eq_true rfl, Nat.le_of_ble_eq_true rfl⟩) hD hS hA (fun _ => rfl) hex hlocks h
  refine wr_i (Wd := CW G q) (va_runV (As := [.int 0, .int (((1 : Int32) <<< (x1 &&& 31)) ||| ((1 : Int32) <<< (x2 &&& 31))), .int (if x1 < x2 then x2 else x1)]) (rest := []) ⟨hx, hb, hml, hown, hts⟩ (kX6_addRule l G q C _ 0 (((1 : Int32) <<< (x1 &&& 31)) ||| ((1 : Int32) <<< (x2 &&& 31))) (if x1 < x2 then x2 else x1) u_4 hu_4) (cwV 3 hts gX6_exclude_X6_addRule rfl rfl rfl (by decide +kernel) ⟨Nat.le_of_ble_eq_true rfl, Nat.le_of_ble_eq_true rfl⟩) (wrV hP hD hK 5 0 rfl rfl) rfl rfl hl.1 rfl (lv_room (Nat.le_of_ble_eq_true rfl)) dX6_exclude_30 ⟨Nat.zero_le _, Nat.zero_le _⟩) hD hS hA (fun _ => rfl) (fun H locs hP hD hS => ?_)
  cases h

def rmX6_any : Room := { frames := 19, cells := 0, slots := 0, locals := 478 }

set_option maxHeartbeats 4000000 in
set_option maxRecDepth 100000 in
theorem kX6_any (l : Launch) (G : GT) (q : Nat → Nat) (C : St) (sz : Nat) (x1 : Int32) (x2 : Int32) (x3 : Int32) (r : Int32 × St) (h : pX6_any C x1 x2 x3 = some (.inr r)) : Met l yX6_any wsX6_any rmX6_any (va_Pc [.ref (q 0), .int x1, .int x2, .int x3] (wrP G (CW G q C) sz)) (va_Qi (fun v u => (v, u) = r) (fun u t => va_P G.1 vwCl (CW G q u) t.heap) (va_A (CW G q C) sz)) 0 0 (va_A (CW G q C) sz) := by
  refine Met.ofW (cc := cX6_any) (maxL := 5) (ret := (some .int)) (by decide) rfl ?_
  intro p e s m args below meth c s₁ B hml hv
  obtain ⟨rfl, hsz, hP, hK, hD0⟩ := hv
  have bx := bx_of B hml
  subst hsz
  have hD := hD0.self (sz := s.heap.size)
  generalize hAe : va_A (CW G q C) s.heap.size = A at hD ⊢
  have hA : ∀ q : Nat, s.heap.size ≤ q → A q := fun q h => by rw [← hAe]; exact Or.inr h
  have hS : va_S A s.heap s.heap [] := va_S.rf
  obtain ⟨hx, hb, hr, hts, hown, hml, hlocks⟩ := id bx
  have hl := lv_entry ([.ref (q 0), .int x1, .int x2, .int x3]) (n := 5) (Nat.le_of_ble_eq_true rfl)
  rw [lg_entry_eq]
  generalize (lg_sl ([.ref (q 0), .int x1, .int x2, .int x3]) ++ List.replicate (5 - (lg_sl ([.ref (q 0), .int x1, .int x2, .int x3])).length) Slot.unset).toArray = ls at hl ⊢
  have hl : lv_has ls 5 [(0, .ref (q 0)), (1, .int x1), (2, .int x2), (3, .int x3)] := hl
  show W p l e rmX6_any s m _ below meth c s.heap [] 0 0 (MQi G (CW G q) A s _ below r) (F0 m 0 ls [])
  unfold pX6_any at h
  refine lv_aload_n hx hb dX6_any_0 rfl (lv_at hl 0 rfl) ?_
  refine lv_iload_n hx hb dX6_any_1 rfl (lv_at hl 1 rfl) ?_
  obtain ⟨r_1, hr_1, h⟩ := tb_N h
  refine ro_v (va_runV (As := [.int x1]) (rest := []) ⟨hx, hb, hml, hown, hts⟩ (kX6_checkFeature l G q C x1 r_1 hr_1) (cwV 1 hts gX6_any_X6_checkFeature rfl rfl rfl (by decide +kernel) ⟨Nat.le_of_ble_eq_true rfl, Nat.le_of_ble_eq_true rfl⟩) (roV hP hK 5 0 rfl rfl) rfl rfl hl.1 rfl (lv_room (Nat.le_of_ble_eq_true rfl)) dX6_any_2 ⟨Nat.zero_le _, Nat.zero_le _⟩) ?_
  refine lv_aload_n hx hb dX6_any_5 rfl (lv_at hl 0 rfl) ?_
  refine lv_iload_n hx hb dX6_any_6 rfl (lv_at hl 2 rfl) ?_
  obtain ⟨r_2, hr_2, h⟩ := tb_N h
  refine ro_v (va_runV (As := [.int x2]) (rest := []) ⟨hx, hb, hml, hown, hts⟩ (kX6_checkFeature l G q C x2 r_2 hr_2) (cwV 1 hts gX6_any_X6_checkFeature rfl rfl rfl (by decide +kernel) ⟨Nat.le_of_ble_eq_true rfl, Nat.le_of_ble_eq_true rfl⟩) (roV hP hK 5 0 rfl rfl) rfl rfl hl.1 rfl (lv_room (Nat.le_of_ble_eq_true rfl)) dX6_any_7 ⟨Nat.zero_le _, Nat.zero_le _⟩) ?_
  refine lv_aload_n hx hb dX6_any_10 rfl (lv_at hl 0 rfl) ?_
  refine lv_iload_n hx hb dX6_any_11 rfl (lv_at hl 3 rfl) ?_
  obtain ⟨r_3, hr_3, h⟩ := tb_N h
  refine ro_v (va_runV (As := [.int x3]) (rest := []) ⟨hx, hb, hml, hown, hts⟩ (kX6_checkFeature l G q C x3 r_3 hr_3) (cwV 1 hts gX6_any_X6_checkFeature rfl rfl rfl (by decide +kernel) ⟨Nat.le_of_ble_eq_true rfl, Nat.le_of_ble_eq_true rfl⟩) (roV hP hK 5 0 rfl rfl) rfl rfl hl.1 rfl (lv_room (Nat.le_of_ble_eq_true rfl)) dX6_any_12 ⟨Nat.zero_le _, Nat.zero_le _⟩) ?_
  refine lv_aload_n hx hb dX6_any_15 rfl (lv_at hl 0 rfl) ?_
  refine lv_iload_n hx hb dX6_any_16 rfl (lv_at hl 1 rfl) ?_
  refine lv_iload_n hx hb dX6_any_17 rfl (lv_at hl 2 rfl) ?_
  obtain ⟨r_4, hr_4, h⟩ := tb_N h
  refine ro_v (va_runV (As := [.int x1, .int x2]) (rest := []) ⟨hx, hb, hml, hown, hts⟩ (kX6_checkDifferent l G q C x1 x2 r_4 hr_4) (cwV 2 hts gX6_any_X6_checkDifferent rfl rfl rfl (by decide +kernel) ⟨Nat.le_of_ble_eq_true rfl, Nat.le_of_ble_eq_true rfl⟩) (roV hP hK 5 0 rfl rfl) rfl rfl hl.1 rfl (lv_room (Nat.le_of_ble_eq_true rfl)) dX6_any_18 ⟨Nat.zero_le _, Nat.zero_le _⟩) ?_
  refine lv_aload_n hx hb dX6_any_21 rfl (lv_at hl 0 rfl) ?_
  refine lv_iload_n hx hb dX6_any_22 rfl (lv_at hl 1 rfl) ?_
  refine lv_iload_n hx hb dX6_any_23 rfl (lv_at hl 3 rfl) ?_
  obtain ⟨r_5, hr_5, h⟩ := tb_N h
  refine ro_v (va_runV (As := [.int x1, .int x3]) (rest := []) ⟨hx, hb, hml, hown, hts⟩ (kX6_checkDifferent l G q C x1 x3 r_5 hr_5) (cwV 2 hts gX6_any_X6_checkDifferent rfl rfl rfl (by decide +kernel) ⟨Nat.le_of_ble_eq_true rfl, Nat.le_of_ble_eq_true rfl⟩) (roV hP hK 5 0 rfl rfl) rfl rfl hl.1 rfl (lv_room (Nat.le_of_ble_eq_true rfl)) dX6_any_24 ⟨Nat.zero_le _, Nat.zero_le _⟩) ?_
  refine lv_aload_n hx hb dX6_any_27 rfl (lv_at hl 0 rfl) ?_
  refine lv_iload_n hx hb dX6_any_28 rfl (lv_at hl 2 rfl) ?_
  refine lv_iload_n hx hb dX6_any_29 rfl (lv_at hl 3 rfl) ?_
  obtain ⟨r_6, hr_6, h⟩ := tb_N h
  refine ro_v (va_runV (As := [.int x2, .int x3]) (rest := []) ⟨hx, hb, hml, hown, hts⟩ (kX6_checkDifferent l G q C x2 x3 r_6 hr_6) (cwV 2 hts gX6_any_X6_checkDifferent rfl rfl rfl (by decide +kernel) ⟨Nat.le_of_ble_eq_true rfl, Nat.le_of_ble_eq_true rfl⟩) (roV hP hK 5 0 rfl rfl) rfl rfl hl.1 rfl (lv_room (Nat.le_of_ble_eq_true rfl)) dX6_any_30 ⟨Nat.zero_le _, Nat.zero_le _⟩) ?_
  refine lv_iconst (v := 1) hx hb dX6_any_33 (by decide) ?_
  refine lv_iload_n hx hb dX6_any_34 rfl (lv_at hl 1 rfl) ?_
  refine lv_ishl hx hb dX6_any_35 ?_
  refine lv_iconst (v := 1) hx hb dX6_any_36 (by decide) ?_
  refine lv_iload_n hx hb dX6_any_37 rfl (lv_at hl 2 rfl) ?_
  refine lv_ishl hx hb dX6_any_38 ?_
  refine lv_ior hx hb dX6_any_39 ?_
  refine lv_iconst (v := 1) hx hb dX6_any_40 (by decide) ?_
  refine lv_iload_n hx hb dX6_any_41 rfl (lv_at hl 3 rfl) ?_
  refine lv_ishl hx hb dX6_any_42 ?_
  refine lv_ior hx hb dX6_any_43 ?_
  refine lv_topi (fun v_7 ev_7 => ?_)
  have h := ltv_at h v_7 ev_7
  refine lv_istore (lv' := [(4, .int v_7), (0, .ref (q 0)), (1, .int x1), (2, .int x2), (3, .int x3)]) hx hb dX6_any_44 hl (by decide) rfl (fun ls hl => ?_)
  refine lv_aload_n hx hb dX6_any_46 rfl (lv_at hl 1 rfl) ?_
  refine lv_iload hx hb dX6_any_47 (lv_at hl 0 rfl) ?_
  refine lv_iconst (v := 0) hx hb dX6_any_49 (by decide) ?_
  refine lv_iload_n hx hb dX6_any_50 rfl (lv_at hl 2 rfl) ?_
  refine lv_iload_n hx hb dX6_any_51 rfl (lv_at hl 3 rfl) ?_
  refine lv_iload_n hx hb dX6_any_52 rfl (lv_at hl 4 rfl) ?_
  refine va_mmax hx hb (hml.trans hl.1.symm) hown (w_mem hts 1 rfl) (w_mem hts 2 rfl) (w_mem hts 3 rfl) (w_mem hts 4 rfl) (Nat.le_of_ble_eq_true rfl) (Nat.le_of_ble_eq_true rfl) (Nat.zero_le _) (Nat.zero_le _) dX6_any_53 ?_
  refine va_mmax hx hb (hml.trans hl.1.symm) hown (w_mem hts 1 rfl) (w_mem hts 2 rfl) (w_mem hts 3 rfl) (w_mem hts 4 rfl) (Nat.le_of_ble_eq_true rfl) (Nat.le_of_ble_eq_true rfl) (Nat.zero_le _) (Nat.zero_le _) dX6_any_56 ?_
  obtain ⟨u_8, hu_8, h⟩ := tb_N h
  refine wr_i (Wd := CW G q) (va_runV (As := [.int v_7, .int 0, .int (if x1 < (if x2 < x3 then x3 else x2) then (if x2 < x3 then x3 else x2) else x1)]) (rest := []) ⟨hx, hb, hml, hown, hts⟩ (kX6_addRule l G q C _ v_7 0 (if x1 < (if x2 < x3 then x3 else x2) then (if x2 < x3 then x3 else x2) else x1) u_8 hu_8) (cwV 3 hts gX6_any_X6_addRule rfl rfl rfl (by decide +kernel) ⟨Nat.le_of_ble_eq_true rfl, Nat.le_of_ble_eq_true rfl⟩) (wrV hP hD hK 5 0 rfl rfl) rfl rfl hl.1 rfl (lv_room (Nat.le_of_ble_eq_true rfl)) dX6_any_59 ⟨Nat.zero_le _, Nat.zero_le _⟩) hD hS hA (fun _ => rfl) (fun H locs hP hD hS => ?_)
  exact MQi.end hx hb hr hlocks hP hS dX6_any_62 rfl (nn_ h)

def rxX6_any : Room := { frames := 19, cells := 1, slots := 6, locals := 478 }

set_option maxHeartbeats 4000000 in
set_option maxRecDepth 100000 in
theorem xX6_any (l : Launch) (hl0 : l.stackTraces = false) (G : GT) (q : Nat → Nat) (C : St) (sz : Nat) (x1 : Int32) (x2 : Int32) (x3 : Int32) (r : Nat × St) (h : pX6_any C x1 x2 x3 = some (.inl r)) : vx_Met l yX6_any wsX6_any rxX6_any (va_Pc [.ref (q 0), .int x1, .int x2, .int x3] (xP G (CW G q C) sz)) (fun _ _ _ _ => False) (XCf G (CW G q) (va_A (CW G q C) sz) r) 1 6 (va_A (CW G q C) sz) := by
  refine vx_ofW (cc := cX6_any) (maxL := 5) (ret := (some .int)) (by decide) rfl ?_
  intro p e s m args below meth c s₁ B hml hex hv
  obtain ⟨rfl, ⟨hsz, hP, hK, hD0⟩, hE⟩ := hv
  have bx := bx_of B hml
  subst hsz
  have hD := hD0.self (sz := s.heap.size)
  generalize hAe : va_A (CW G q C) s.heap.size = A at hD hE ⊢
  have hA : ∀ q : Nat, s.heap.size ≤ q → A q := fun q h => by rw [← hAe]; exact Or.inr h
  have hS : va_S A s.heap s.heap [] := va_S.rf
  obtain ⟨hx, hb, hr, hts, hown, hml, hlocks⟩ := id bx
  have hl := lv_entry ([.ref (q 0), .int x1, .int x2, .int x3]) (n := 5) (Nat.le_of_ble_eq_true rfl)
  rw [lg_entry_eq]
  generalize (lg_sl ([.ref (q 0), .int x1, .int x2, .int x3]) ++ List.replicate (5 - (lg_sl ([.ref (q 0), .int x1, .int x2, .int x3])).length) Slot.unset).toArray = ls at hl ⊢
  have hl : lv_has ls 5 [(0, .ref (q 0)), (1, .int x1), (2, .int x2), (3, .int x3)] := hl
  show W p l e rxX6_any s m _ below meth c s.heap [] 0 0 (MQx G (CW G q) A s _ below r) (F0 m 0 ls [])
  unfold pX6_any at h
  refine lv_aload_n hx hb dX6_any_0 rfl (lv_at hl 0 rfl) ?_
  refine lv_iload_n hx hb dX6_any_1 rfl (lv_at hl 1 rfl) ?_
  rcases tb_X h with ⟨er_1, hr_1, h⟩ | ⟨r_1, hr_1, h⟩
  · exact x_prop (Wd := CW G q) (vx_runV (As := [.int x1]) (rest := []) ⟨hx, hb, hml, hown, hts⟩ (xX6_checkFeature l hl0 G q C _ x1 er_1 hr_1) (cwV 1 hts gX6_any_X6_checkFeature rfl rfl rfl (by decide +kernel) ⟨Nat.le_of_ble_eq_true rfl, Nat.le_of_ble_eq_true rfl⟩) (xV hP hD hS hK hA hE 5 0 rfl rfl) rfl rfl hl.1 rfl (lv_room (Nat.le_of_ble_eq_true rfl)) dX6_any_2 ⟨Nat.le_of_ble_eq_true rfl, Nat.le_of_ble_eq_true rfl⟩) hD hS hA (fun _ => rfl) hex hlocks h
  refine ro_v (va_runV (As := [.int x1]) (rest := []) ⟨hx, hb, hml, hown, hts⟩ (kX6_checkFeature l G q C x1 r_1 hr_1) (cwV 1 hts gX6_any_X6_checkFeature rfl rfl rfl (by decide +kernel) ⟨Nat.le_of_ble_eq_true rfl, Nat.le_of_ble_eq_true rfl⟩) (roV hP hK 5 0 rfl rfl) rfl rfl hl.1 rfl (lv_room (Nat.le_of_ble_eq_true rfl)) dX6_any_2 ⟨Nat.zero_le _, Nat.zero_le _⟩) ?_
  refine lv_aload_n hx hb dX6_any_5 rfl (lv_at hl 0 rfl) ?_
  refine lv_iload_n hx hb dX6_any_6 rfl (lv_at hl 2 rfl) ?_
  rcases tb_X h with ⟨er_2, hr_2, h⟩ | ⟨r_2, hr_2, h⟩
  · exact x_prop (Wd := CW G q) (vx_runV (As := [.int x2]) (rest := []) ⟨hx, hb, hml, hown, hts⟩ (xX6_checkFeature l hl0 G q C _ x2 er_2 hr_2) (cwV 1 hts gX6_any_X6_checkFeature rfl rfl rfl (by decide +kernel) ⟨Nat.le_of_ble_eq_true rfl, Nat.le_of_ble_eq_true rfl⟩) (xV hP hD hS hK hA hE 5 0 rfl rfl) rfl rfl hl.1 rfl (lv_room (Nat.le_of_ble_eq_true rfl)) dX6_any_7 ⟨Nat.le_of_ble_eq_true rfl, Nat.le_of_ble_eq_true rfl⟩) hD hS hA (fun _ => rfl) hex hlocks h
  refine ro_v (va_runV (As := [.int x2]) (rest := []) ⟨hx, hb, hml, hown, hts⟩ (kX6_checkFeature l G q C x2 r_2 hr_2) (cwV 1 hts gX6_any_X6_checkFeature rfl rfl rfl (by decide +kernel) ⟨Nat.le_of_ble_eq_true rfl, Nat.le_of_ble_eq_true rfl⟩) (roV hP hK 5 0 rfl rfl) rfl rfl hl.1 rfl (lv_room (Nat.le_of_ble_eq_true rfl)) dX6_any_7 ⟨Nat.zero_le _, Nat.zero_le _⟩) ?_
  refine lv_aload_n hx hb dX6_any_10 rfl (lv_at hl 0 rfl) ?_
  refine lv_iload_n hx hb dX6_any_11 rfl (lv_at hl 3 rfl) ?_
  rcases tb_X h with ⟨er_3, hr_3, h⟩ | ⟨r_3, hr_3, h⟩
  · exact x_prop (Wd := CW G q) (vx_runV (As := [.int x3]) (rest := []) ⟨hx, hb, hml, hown, hts⟩ (xX6_checkFeature l hl0 G q C _ x3 er_3 hr_3) (cwV 1 hts gX6_any_X6_checkFeature rfl rfl rfl (by decide +kernel) ⟨Nat.le_of_ble_eq_true rfl, Nat.le_of_ble_eq_true rfl⟩) (xV hP hD hS hK hA hE 5 0 rfl rfl) rfl rfl hl.1 rfl (lv_room (Nat.le_of_ble_eq_true rfl)) dX6_any_12 ⟨Nat.le_of_ble_eq_true rfl, Nat.le_of_ble_eq_true rfl⟩) hD hS hA (fun _ => rfl) hex hlocks h
  refine ro_v (va_runV (As := [.int x3]) (rest := []) ⟨hx, hb, hml, hown, hts⟩ (kX6_checkFeature l G q C x3 r_3 hr_3) (cwV 1 hts gX6_any_X6_checkFeature rfl rfl rfl (by decide +kernel) ⟨Nat.le_of_ble_eq_true rfl, Nat.le_of_ble_eq_true rfl⟩) (roV hP hK 5 0 rfl rfl) rfl rfl hl.1 rfl (lv_room (Nat.le_of_ble_eq_true rfl)) dX6_any_12 ⟨Nat.zero_le _, Nat.zero_le _⟩) ?_
  refine lv_aload_n hx hb dX6_any_15 rfl (lv_at hl 0 rfl) ?_
  refine lv_iload_n hx hb dX6_any_16 rfl (lv_at hl 1 rfl) ?_
  refine lv_iload_n hx hb dX6_any_17 rfl (lv_at hl 2 rfl) ?_
  rcases tb_X h with ⟨er_4, hr_4, h⟩ | ⟨r_4, hr_4, h⟩
  · exact x_prop (Wd := CW G q) (vx_runV (As := [.int x1, .int x2]) (rest := []) ⟨hx, hb, hml, hown, hts⟩ (xX6_checkDifferent l hl0 G q C _ x1 x2 er_4 hr_4) (cwV 2 hts gX6_any_X6_checkDifferent rfl rfl rfl (by decide +kernel) ⟨Nat.le_of_ble_eq_true rfl, Nat.le_of_ble_eq_true rfl⟩) (xV hP hD hS hK hA hE 5 0 rfl rfl) rfl rfl hl.1 rfl (lv_room (Nat.le_of_ble_eq_true rfl)) dX6_any_18 ⟨Nat.le_of_ble_eq_true rfl, Nat.le_of_ble_eq_true rfl⟩) hD hS hA (fun _ => rfl) hex hlocks h
  refine ro_v (va_runV (As := [.int x1, .int x2]) (rest := []) ⟨hx, hb, hml, hown, hts⟩ (kX6_checkDifferent l G q C x1 x2 r_4 hr_4) (cwV 2 hts gX6_any_X6_checkDifferent rfl rfl rfl (by decide +kernel) ⟨Nat.le_of_ble_eq_true rfl, Nat.le_of_ble_eq_true rfl⟩) (roV hP hK 5 0 rfl rfl) rfl rfl hl.1 rfl (lv_room (Nat.le_of_ble_eq_true rfl)) dX6_any_18 ⟨Nat.zero_le _, Nat.zero_le _⟩) ?_
  refine lv_aload_n hx hb dX6_any_21 rfl (lv_at hl 0 rfl) ?_
  refine lv_iload_n hx hb dX6_any_22 rfl (lv_at hl 1 rfl) ?_
  refine lv_iload_n hx hb dX6_any_23 rfl (lv_at hl 3 rfl) ?_
  rcases tb_X h with ⟨er_5, hr_5, h⟩ | ⟨r_5, hr_5, h⟩
  · exact x_prop (Wd := CW G q) (vx_runV (As := [.int x1, .int x3]) (rest := []) ⟨hx, hb, hml, hown, hts⟩ (xX6_checkDifferent l hl0 G q C _ x1 x3 er_5 hr_5) (cwV 2 hts gX6_any_X6_checkDifferent rfl rfl rfl (by decide +kernel) ⟨Nat.le_of_ble_eq_true rfl, Nat.le_of_ble_eq_true rfl⟩) (xV hP hD hS hK hA hE 5 0 rfl rfl) rfl rfl hl.1 rfl (lv_room (Nat.le_of_ble_eq_true rfl)) dX6_any_24 ⟨Nat.le_of_ble_eq_true rfl, Nat.le_of_ble_eq_true rfl⟩) hD hS hA (fun _ => rfl) hex hlocks h
  refine ro_v (va_runV (As := [.int x1, .int x3]) (rest := []) ⟨hx, hb, hml, hown, hts⟩ (kX6_checkDifferent l G q C x1 x3 r_5 hr_5) (cwV 2 hts gX6_any_X6_checkDifferent rfl rfl rfl (by decide +kernel) ⟨Nat.le_of_ble_eq_true rfl, Nat.le_of_ble_eq_true rfl⟩) (roV hP hK 5 0 rfl rfl) rfl rfl hl.1 rfl (lv_room (Nat.le_of_ble_eq_true rfl)) dX6_any_24 ⟨Nat.zero_le _, Nat.zero_le _⟩) ?_
  refine lv_aload_n hx hb dX6_any_27 rfl (lv_at hl 0 rfl) ?_
  refine lv_iload_n hx hb dX6_any_28 rfl (lv_at hl 2 rfl) ?_
  refine lv_iload_n hx hb dX6_any_29 rfl (lv_at hl 3 rfl) ?_
  rcases tb_X h with ⟨er_6, hr_6, h⟩ | ⟨r_6, hr_6, h⟩
  · exact x_prop (Wd := CW G q) (vx_runV (As := [.int x2, .int x3]) (rest := []) ⟨hx, hb, hml, hown, hts⟩ (xX6_checkDifferent l hl0 G q C _ x2 x3 er_6 hr_6) (cwV 2 hts gX6_any_X6_checkDifferent rfl rfl rfl (by decide +kernel) ⟨Nat.le_of_ble_eq_true rfl, Nat.le_of_ble_eq_true rfl⟩) (xV hP hD hS hK hA hE 5 0 rfl rfl) rfl rfl hl.1 rfl (lv_room (Nat.le_of_ble_eq_true rfl)) dX6_any_30 ⟨Nat.le_of_ble_eq_true rfl, Nat.le_of_ble_eq_true rfl⟩) hD hS hA (fun _ => rfl) hex hlocks h
  refine ro_v (va_runV (As := [.int x2, .int x3]) (rest := []) ⟨hx, hb, hml, hown, hts⟩ (kX6_checkDifferent l G q C x2 x3 r_6 hr_6) (cwV 2 hts gX6_any_X6_checkDifferent rfl rfl rfl (by decide +kernel) ⟨Nat.le_of_ble_eq_true rfl, Nat.le_of_ble_eq_true rfl⟩) (roV hP hK 5 0 rfl rfl) rfl rfl hl.1 rfl (lv_room (Nat.le_of_ble_eq_true rfl)) dX6_any_30 ⟨Nat.zero_le _, Nat.zero_le _⟩) ?_
  refine lv_iconst (v := 1) hx hb dX6_any_33 (by decide) ?_
  refine lv_iload_n hx hb dX6_any_34 rfl (lv_at hl 1 rfl) ?_
  refine lv_ishl hx hb dX6_any_35 ?_
  refine lv_iconst (v := 1) hx hb dX6_any_36 (by decide) ?_
  refine lv_iload_n hx hb dX6_any_37 rfl (lv_at hl 2 rfl) ?_
  refine lv_ishl hx hb dX6_any_38 ?_
  refine lv_ior hx hb dX6_any_39 ?_
  refine lv_iconst (v := 1) hx hb dX6_any_40 (by decide) ?_
  refine lv_iload_n hx hb dX6_any_41 rfl (lv_at hl 3 rfl) ?_
  refine lv_ishl hx hb dX6_any_42 ?_
  refine lv_ior hx hb dX6_any_43 ?_
  refine lv_topi (fun v_7 ev_7 => ?_)
  have h := ltv_at h v_7 ev_7
  refine lv_istore (lv' := [(4, .int v_7), (0, .ref (q 0)), (1, .int x1), (2, .int x2), (3, .int x3)]) hx hb dX6_any_44 hl (by decide) rfl (fun ls hl => ?_)
  refine lv_aload_n hx hb dX6_any_46 rfl (lv_at hl 1 rfl) ?_
  refine lv_iload hx hb dX6_any_47 (lv_at hl 0 rfl) ?_
  refine lv_iconst (v := 0) hx hb dX6_any_49 (by decide) ?_
  refine lv_iload_n hx hb dX6_any_50 rfl (lv_at hl 2 rfl) ?_
  refine lv_iload_n hx hb dX6_any_51 rfl (lv_at hl 3 rfl) ?_
  refine lv_iload_n hx hb dX6_any_52 rfl (lv_at hl 4 rfl) ?_
  refine va_mmax hx hb (hml.trans hl.1.symm) hown (w_mem hts 1 rfl) (w_mem hts 2 rfl) (w_mem hts 3 rfl) (w_mem hts 4 rfl) (Nat.le_of_ble_eq_true rfl) (Nat.le_of_ble_eq_true rfl) (Nat.zero_le _) (Nat.zero_le _) dX6_any_53 ?_
  refine va_mmax hx hb (hml.trans hl.1.symm) hown (w_mem hts 1 rfl) (w_mem hts 2 rfl) (w_mem hts 3 rfl) (w_mem hts 4 rfl) (Nat.le_of_ble_eq_true rfl) (Nat.le_of_ble_eq_true rfl) (Nat.zero_le _) (Nat.zero_le _) dX6_any_56 ?_
  rcases tb_X h with ⟨eu_8, hu_8, h⟩ | ⟨u_8, hu_8, h⟩
  · exact x_prop (Wd := CW G q) (vx_runV (As := [.int v_7, .int 0, .int (if x1 < (if x2 < x3 then x3 else x2) then (if x2 < x3 then x3 else x2) else x1)]) (rest := []) ⟨hx, hb, hml, hown, hts⟩ (xX6_addRule l hl0 G q C _ v_7 0 (if x1 < (if x2 < x3 then x3 else x2) then (if x2 < x3 then x3 else x2) else x1) eu_8 hu_8) (cwV 3 hts gX6_any_X6_addRule rfl rfl rfl (by decide +kernel) ⟨Nat.le_of_ble_eq_true rfl, Nat.le_of_ble_eq_true rfl⟩) (xV hP hD hS hK hA hE 5 0 rfl rfl) rfl rfl hl.1 rfl (lv_room (Nat.le_of_ble_eq_true rfl)) dX6_any_59 ⟨Nat.le_of_ble_eq_true rfl, Nat.le_of_ble_eq_true rfl⟩) hD hS hA (fun _ => rfl) hex hlocks h
  refine wr_i (Wd := CW G q) (va_runV (As := [.int v_7, .int 0, .int (if x1 < (if x2 < x3 then x3 else x2) then (if x2 < x3 then x3 else x2) else x1)]) (rest := []) ⟨hx, hb, hml, hown, hts⟩ (kX6_addRule l G q C _ v_7 0 (if x1 < (if x2 < x3 then x3 else x2) then (if x2 < x3 then x3 else x2) else x1) u_8 hu_8) (cwV 3 hts gX6_any_X6_addRule rfl rfl rfl (by decide +kernel) ⟨Nat.le_of_ble_eq_true rfl, Nat.le_of_ble_eq_true rfl⟩) (wrV hP hD hK 5 0 rfl rfl) rfl rfl hl.1 rfl (lv_room (Nat.le_of_ble_eq_true rfl)) dX6_any_59 ⟨Nat.zero_le _, Nat.zero_le _⟩) hD hS hA (fun _ => rfl) (fun H locs hP hD hS => ?_)
  cases h

def rmX6_lift : Room := { frames := 1, cells := 0, slots := 0, locals := 21 }

theorem in_wsX6_lift_X6 : ∀ w ∈ u_ws RX6 TX6 7, w ∈ wsX6_lift := by decide +kernel

theorem in_wsX6_lift_X3 : ∀ w ∈ u_ws RX3 TX3 5, w ∈ wsX6_lift := by decide +kernel

set_option maxHeartbeats 4000000 in
set_option maxRecDepth 100000 in
theorem wX6_lift_15 {p : Program} {l : Launch} {e : Env} {s : State} {m : MethodId} {args : Array Value} {below : List Frame} {meth : Method} {c : Code} {G : GT} {q : Nat → Nat} {A : Nat → Prop} {out : Int32 × St} (bx : BX p RX6 wsX6_lift cX6_lift 2 (some .int) s m args meth c) (hA : ∀ q : Nat, s.heap.size ≤ q → A q) (hK : CK G s) (C : St) (h : pX6_lift_15 C = some (.inr out)) {H : Heap} {locs : List Loc} (hP : va_P G.1 vwCl (CW G q C) H) (hD : va_D A (CW G q C)) (hS : va_S A s.heap H locs) (ls : Array Slot) (hl : lv_has ls 2 []) : W p l e rmX6_lift s m args below meth c H locs 0 0 (MQi G (CW G q) A s args below out) (F0 m 15 ls []) := by
  obtain ⟨hx, hb, hr, hts, hown, hml, hlocks⟩ := id bx
  unfold pX6_lift_15 at h
  cases h

set_option maxHeartbeats 4000000 in
set_option maxRecDepth 100000 in
theorem kX6_lift (l : Launch) (G : GT) (q : Nat → Nat) (C : St) (sz : Nat) (x1 : Int32) (r : Int32 × St) (h : pX6_lift C x1 = some (.inr r)) : Met l yX6_lift wsX6_lift rmX6_lift (va_Pc [.ref (q 0), .int x1] (wrP G (CW G q C) sz)) (va_Qi (fun v u => (v, u) = r) (fun u t => va_P G.1 vwCl (CW G q u) t.heap) (va_A (CW G q C) sz)) 0 0 (va_A (CW G q C) sz) := by
  refine Met.ofW (cc := cX6_lift) (maxL := 2) (ret := (some .int)) (by decide) rfl ?_
  intro p e s m args below meth c s₁ B hml hv
  obtain ⟨rfl, hsz, hP, hK, hD0⟩ := hv
  have bx := bx_of B hml
  subst hsz
  have hD := hD0.self (sz := s.heap.size)
  generalize hAe : va_A (CW G q C) s.heap.size = A at hD ⊢
  have hA : ∀ q : Nat, s.heap.size ≤ q → A q := fun q h => by rw [← hAe]; exact Or.inr h
  have hS : va_S A s.heap s.heap [] := va_S.rf
  obtain ⟨hx, hb, hr, hts, hown, hml, hlocks⟩ := id bx
  have hl := lv_entry ([.ref (q 0), .int x1]) (n := 2) (Nat.le_of_ble_eq_true rfl)
  rw [lg_entry_eq]
  generalize (lg_sl ([.ref (q 0), .int x1]) ++ List.replicate (2 - (lg_sl ([.ref (q 0), .int x1])).length) Slot.unset).toArray = ls at hl ⊢
  have hl : lv_has ls 2 [(0, .ref (q 0)), (1, .int x1)] := hl
  show W p l e rmX6_lift s m _ below meth c s.heap [] 0 0 (MQi G (CW G q) A s _ below r) (F0 m 0 ls [])
  unfold pX6_lift at h
  refine lv_iload_n hx hb dX6_lift_0 rfl (lv_at hl 1 rfl) ?_
  refine lv_if_lt (tgt := 15) hx hb dX6_lift_1 (by decide) (fun c_1 => ?_) (fun c_1 => ?_)
  · have h := br_T h c_1
    exact wX6_lift_15 bx hA hK C h hP hD hS _ (lv_sub hl [] rfl)
  · have h := br_F h c_1
    refine lv_iload_n hx hb dX6_lift_4 rfl (lv_at hl 1 rfl) ?_
    refine lv_aload_n hx hb dX6_lift_5 rfl (lv_at hl 0 rfl) ?_
    refine va_get (D := G.1) (ci := 5) (v := .ref (q 2)) (C := RX6) (T := TX6) (N := 7) hx hb hts in_wsX6_lift_X6 hown hK.1 hP 0 rfl rfl 1 (by decide) (w_mem hts 5 rfl) (fun _ h9 => h9) rfl dX6_lift_6 ?_
    refine va_getN (D := G.1) (ci := 3) (v := .int (C.1 5)) (C := RX3) (T := TX3) (N := 5) hx hb hts in_wsX6_lift_X3 hown hK.1 hP 2 rfl rfl 4 (by decide) (hK.2.at 28 rfl) (fun _ h9 => h9) rfl dX6_lift_9 ?_
    refine lv_icmp_lt (tgt := 25) hx hb dX6_lift_12 (by decide) (fun c_12 => ?_) (fun c_12 => ?_)
    · have h := br_T h c_12
      refine lv_aload_n hx hb dX6_lift_25 rfl (lv_at hl 0 rfl) ?_
      refine va_get (D := G.1) (ci := 5) (v := .ref (q 2)) (C := RX6) (T := TX6) (N := 7) hx hb hts in_wsX6_lift_X6 hown hK.1 hP 0 rfl rfl 1 (by decide) (w_mem hts 5 rfl) (fun _ h9 => h9) rfl dX6_lift_26 ?_
      refine va_getN (D := G.1) (ci := 3) (v := .int (C.1 4)) (C := RX3) (T := TX3) (N := 5) hx hb hts in_wsX6_lift_X3 hown hK.1 hP 2 rfl rfl 3 (by decide) (hK.2.at 29 rfl) (fun _ h9 => h9) rfl dX6_lift_29 ?_
      refine lv_iload_n hx hb dX6_lift_32 rfl (lv_at hl 1 rfl) ?_
      obtain ⟨r_1, hr_1, h⟩ := bd_ex h
      refine ro_i (va_runS (As := [.int (C.1 4), .int x1]) (rest := []) ⟨hx, hb, hml, hown, hts⟩ (kX6_has l G q C (C.1 4) x1 r_1 hr_1) (va_cwS 2 hts gX6_lift_X6_has rfl rfl rfl (by decide +kernel) ⟨Nat.le_of_ble_eq_true rfl, Nat.le_of_ble_eq_true rfl⟩) (roS hP hK) rfl rfl hl.1 rfl (lv_room (Nat.le_of_ble_eq_true rfl)) dX6_lift_33 ⟨Nat.zero_le _, Nat.zero_le _⟩) ?_
      refine lv_if_ne (tgt := 49) hx hb dX6_lift_36 (by decide) (fun c_36 => ?_) (fun c_36 => ?_)
      · have h := br_F h c_36
        refine lv_aload_n hx hb dX6_lift_49 rfl (lv_at hl 0 rfl) ?_
        refine va_get (D := G.1) (ci := 5) (v := .ref (q 2)) (C := RX6) (T := TX6) (N := 7) hx hb hts in_wsX6_lift_X6 hown hK.1 hP 0 rfl rfl 1 (by decide) (w_mem hts 5 rfl) (fun _ h9 => h9) rfl dX6_lift_50 ?_
        refine lv_dup hx hb dX6_lift_53 rfl ?_
        refine va_getN (D := G.1) (ci := 3) (v := .int (C.1 4)) (C := RX3) (T := TX3) (N := 5) hx hb hts in_wsX6_lift_X3 hown hK.1 hP 2 rfl rfl 3 (by decide) (hK.2.at 29 rfl) (fun _ h9 => h9) rfl dX6_lift_54 ?_
        refine lv_iconst (v := 1) hx hb dX6_lift_57 (by decide) ?_
        refine lv_iload_n hx hb dX6_lift_58 rfl (lv_at hl 1 rfl) ?_
        refine lv_ishl hx hb dX6_lift_59 ?_
        refine lv_iconst (v := (-1)) hx hb dX6_lift_60 (by decide) ?_
        refine lv_ixor hx hb dX6_lift_61 ?_
        refine lv_iand hx hb dX6_lift_62 ?_
        refine va_putN (D := G.1) (ci := 3) (v := .int ((C.1 4) &&& (((1 : Int32) <<< (x1 &&& 31)) ^^^ (-1)))) (ty := .int) (C := RX3) (T := TX3) (N := 5) hx hb hts in_wsX6_lift_X3 tyX3 tyX3_ok nmX3 hown hK.1 hP hD hS 2 rfl rfl 3 (by decide) (hK.2.at 29 rfl) (fun _ h9 => h9) rfl (by decide +kernel) rfl rfl (Nat.le_of_ble_eq_true rfl) dX6_lift_63 (fun H locs hP hD hS => ?_)
        have hP : va_P G.1 vwCl (CW G q (sS C 4 ((C.1 4) &&& (((1 : Int32) <<< (x1 &&& 31)) ^^^ (-1))))) H := hP
        have hD : va_D A (CW G q (sS C 4 ((C.1 4) &&& (((1 : Int32) <<< (x1 &&& 31)) ^^^ (-1))))) := hD
        obtain ⟨C_2, eC_2, h⟩ := ltv_ex h
        rw [← eC_2] at hP hD
        refine lv_aload_n hx hb dX6_lift_66 rfl (lv_at hl 0 rfl) ?_
        refine va_get (D := G.1) (ci := 5) (v := .ref (q 2)) (C := RX6) (T := TX6) (N := 7) hx hb hts in_wsX6_lift_X6 hown hK.1 hP 0 rfl rfl 1 (by decide) (w_mem hts 5 rfl) (fun _ h9 => h9) rfl dX6_lift_67 ?_
        refine va_getN (D := G.1) (ci := 3) (v := .int (C_2.1 4)) (C := RX3) (T := TX3) (N := 5) hx hb hts in_wsX6_lift_X3 hown hK.1 hP 2 rfl rfl 3 (by decide) (hK.2.at 29 rfl) (fun _ h9 => h9) rfl dX6_lift_70 ?_
        obtain ⟨r_3, hr_3, h⟩ := bd_ex h
        refine ro_i (va_runS (As := [.int (C_2.1 4)]) (rest := []) ⟨hx, hb, hml, hown, hts⟩ (kJ6_bitCount_0f7a4 l (C_2.1 4) r_3 hr_3) (va_cwS 1 hts gX6_lift_J6_bitCount_0f7a4 rfl rfl rfl (by decide +kernel) ⟨Nat.le_of_ble_eq_true rfl, Nat.le_of_ble_eq_true rfl⟩) noS rfl rfl hl.1 rfl (lv_room (Nat.le_of_ble_eq_true rfl)) dX6_lift_73 ⟨Nat.zero_le _, Nat.zero_le _⟩) ?_
        exact MQi.end hx hb hr hlocks hP hS dX6_lift_76 rfl (nn_ h)
      · have h := br_T h c_36
        cases h
    · have h := br_F h c_12
      exact wX6_lift_15 bx hA hK C h hP hD hS _ (lv_sub hl [] rfl)

def rxX6_lift : Room := { frames := 6, cells := 1, slots := 6, locals := 100 }

set_option maxHeartbeats 4000000 in
set_option maxRecDepth 100000 in
theorem xX6_lift_15 {p : Program} {l : Launch} {e : Env} {s : State} {m : MethodId} {args : Array Value} {below : List Frame} {meth : Method} {c : Code} {G : GT} {q : Nat → Nat} {A : Nat → Prop} {out : Nat × St} (bx : BX p RX6 wsX6_lift cX6_lift 2 (some .int) s m args meth c) (hA : ∀ q : Nat, s.heap.size ≤ q → A q) (hK : CK G s) (hl0 : l.stackTraces = false) (hE : XE A s) (hex : ∀ x ∈ c.exceptionTable.toList, False) (C : St) (h : pX6_lift_15 C = some (.inl out)) {H : Heap} {locs : List Loc} (hP : va_P G.1 vwCl (CW G q C) H) (hD : va_D A (CW G q C)) (hS : va_S A s.heap H locs) (ls : Array Slot) (hl : lv_has ls 2 []) : W p l e rxX6_lift s m args below meth c H locs 0 0 (MQx G (CW G q) A s args below out) (F0 m 15 ls []) := by
  obtain ⟨hx, hb, hr, hts, hown, hml, hlocks⟩ := id bx
  unfold pX6_lift_15 at h
  exact x_throwN (Wd := CW G q) (C := C) (text := "there is no such rule") hx hb hl0 hts hown hml hlocks hex hK hE hP hS hl (w_mem hts 1 rfl) (w_mem hts 2 rfl) (List.mem_of_getElem? (i := 4) rfl) (fun w h => List.mem_cons_of_mem _ (List.mem_append_left _ (List.mem_append_right _ h))) dX6_lift_15 dX6_lift_18 dX6_lift_19 dX6_lift_21 dX6_lift_24 ⟨Nat.le_of_ble_eq_true rfl, Nat.le_of_ble_eq_true rfl, Nat.le_of_ble_eq_true rfl, Nat.le_of_ble_eq_true rfl⟩ ((xl_ h).symm)

set_option maxHeartbeats 4000000 in
set_option maxRecDepth 100000 in
theorem xX6_lift (l : Launch) (hl0 : l.stackTraces = false) (G : GT) (q : Nat → Nat) (C : St) (sz : Nat) (x1 : Int32) (r : Nat × St) (h : pX6_lift C x1 = some (.inl r)) : vx_Met l yX6_lift wsX6_lift rxX6_lift (va_Pc [.ref (q 0), .int x1] (xP G (CW G q C) sz)) (fun _ _ _ _ => False) (XCf G (CW G q) (va_A (CW G q C) sz) r) 1 6 (va_A (CW G q C) sz) := by
  refine vx_ofW (cc := cX6_lift) (maxL := 2) (ret := (some .int)) (by decide) rfl ?_
  intro p e s m args below meth c s₁ B hml hex hv
  obtain ⟨rfl, ⟨hsz, hP, hK, hD0⟩, hE⟩ := hv
  have bx := bx_of B hml
  subst hsz
  have hD := hD0.self (sz := s.heap.size)
  generalize hAe : va_A (CW G q C) s.heap.size = A at hD hE ⊢
  have hA : ∀ q : Nat, s.heap.size ≤ q → A q := fun q h => by rw [← hAe]; exact Or.inr h
  have hS : va_S A s.heap s.heap [] := va_S.rf
  obtain ⟨hx, hb, hr, hts, hown, hml, hlocks⟩ := id bx
  have hl := lv_entry ([.ref (q 0), .int x1]) (n := 2) (Nat.le_of_ble_eq_true rfl)
  rw [lg_entry_eq]
  generalize (lg_sl ([.ref (q 0), .int x1]) ++ List.replicate (2 - (lg_sl ([.ref (q 0), .int x1])).length) Slot.unset).toArray = ls at hl ⊢
  have hl : lv_has ls 2 [(0, .ref (q 0)), (1, .int x1)] := hl
  show W p l e rxX6_lift s m _ below meth c s.heap [] 0 0 (MQx G (CW G q) A s _ below r) (F0 m 0 ls [])
  unfold pX6_lift at h
  refine lv_iload_n hx hb dX6_lift_0 rfl (lv_at hl 1 rfl) ?_
  refine lv_if_lt (tgt := 15) hx hb dX6_lift_1 (by decide) (fun c_1 => ?_) (fun c_1 => ?_)
  · have h := br_T h c_1
    exact xX6_lift_15 bx hA hK hl0 hE hex C h hP hD hS _ (lv_sub hl [] rfl)
  · have h := br_F h c_1
    refine lv_iload_n hx hb dX6_lift_4 rfl (lv_at hl 1 rfl) ?_
    refine lv_aload_n hx hb dX6_lift_5 rfl (lv_at hl 0 rfl) ?_
    refine va_get (D := G.1) (ci := 5) (v := .ref (q 2)) (C := RX6) (T := TX6) (N := 7) hx hb hts in_wsX6_lift_X6 hown hK.1 hP 0 rfl rfl 1 (by decide) (w_mem hts 5 rfl) (fun _ h9 => h9) rfl dX6_lift_6 ?_
    refine va_getN (D := G.1) (ci := 3) (v := .int (C.1 5)) (C := RX3) (T := TX3) (N := 5) hx hb hts in_wsX6_lift_X3 hown hK.1 hP 2 rfl rfl 4 (by decide) (hK.2.at 28 rfl) (fun _ h9 => h9) rfl dX6_lift_9 ?_
    refine lv_icmp_lt (tgt := 25) hx hb dX6_lift_12 (by decide) (fun c_12 => ?_) (fun c_12 => ?_)
    · have h := br_T h c_12
      refine lv_aload_n hx hb dX6_lift_25 rfl (lv_at hl 0 rfl) ?_
      refine va_get (D := G.1) (ci := 5) (v := .ref (q 2)) (C := RX6) (T := TX6) (N := 7) hx hb hts in_wsX6_lift_X6 hown hK.1 hP 0 rfl rfl 1 (by decide) (w_mem hts 5 rfl) (fun _ h9 => h9) rfl dX6_lift_26 ?_
      refine va_getN (D := G.1) (ci := 3) (v := .int (C.1 4)) (C := RX3) (T := TX3) (N := 5) hx hb hts in_wsX6_lift_X3 hown hK.1 hP 2 rfl rfl 3 (by decide) (hK.2.at 29 rfl) (fun _ h9 => h9) rfl dX6_lift_29 ?_
      refine lv_iload_n hx hb dX6_lift_32 rfl (lv_at hl 1 rfl) ?_
      obtain ⟨r_1, hr_1, h⟩ := bd_ex h
      refine ro_i (va_runS (As := [.int (C.1 4), .int x1]) (rest := []) ⟨hx, hb, hml, hown, hts⟩ (kX6_has l G q C (C.1 4) x1 r_1 hr_1) (va_cwS 2 hts gX6_lift_X6_has rfl rfl rfl (by decide +kernel) ⟨Nat.le_of_ble_eq_true rfl, Nat.le_of_ble_eq_true rfl⟩) (roS hP hK) rfl rfl hl.1 rfl (lv_room (Nat.le_of_ble_eq_true rfl)) dX6_lift_33 ⟨Nat.zero_le _, Nat.zero_le _⟩) ?_
      refine lv_if_ne (tgt := 49) hx hb dX6_lift_36 (by decide) (fun c_36 => ?_) (fun c_36 => ?_)
      · have h := br_F h c_36
        refine lv_aload_n hx hb dX6_lift_49 rfl (lv_at hl 0 rfl) ?_
        refine va_get (D := G.1) (ci := 5) (v := .ref (q 2)) (C := RX6) (T := TX6) (N := 7) hx hb hts in_wsX6_lift_X6 hown hK.1 hP 0 rfl rfl 1 (by decide) (w_mem hts 5 rfl) (fun _ h9 => h9) rfl dX6_lift_50 ?_
        refine lv_dup hx hb dX6_lift_53 rfl ?_
        refine va_getN (D := G.1) (ci := 3) (v := .int (C.1 4)) (C := RX3) (T := TX3) (N := 5) hx hb hts in_wsX6_lift_X3 hown hK.1 hP 2 rfl rfl 3 (by decide) (hK.2.at 29 rfl) (fun _ h9 => h9) rfl dX6_lift_54 ?_
        refine lv_iconst (v := 1) hx hb dX6_lift_57 (by decide) ?_
        refine lv_iload_n hx hb dX6_lift_58 rfl (lv_at hl 1 rfl) ?_
        refine lv_ishl hx hb dX6_lift_59 ?_
        refine lv_iconst (v := (-1)) hx hb dX6_lift_60 (by decide) ?_
        refine lv_ixor hx hb dX6_lift_61 ?_
        refine lv_iand hx hb dX6_lift_62 ?_
        refine va_putN (D := G.1) (ci := 3) (v := .int ((C.1 4) &&& (((1 : Int32) <<< (x1 &&& 31)) ^^^ (-1)))) (ty := .int) (C := RX3) (T := TX3) (N := 5) hx hb hts in_wsX6_lift_X3 tyX3 tyX3_ok nmX3 hown hK.1 hP hD hS 2 rfl rfl 3 (by decide) (hK.2.at 29 rfl) (fun _ h9 => h9) rfl (by decide +kernel) rfl rfl (Nat.le_of_ble_eq_true rfl) dX6_lift_63 (fun H locs hP hD hS => ?_)
        have hP : va_P G.1 vwCl (CW G q (sS C 4 ((C.1 4) &&& (((1 : Int32) <<< (x1 &&& 31)) ^^^ (-1))))) H := hP
        have hD : va_D A (CW G q (sS C 4 ((C.1 4) &&& (((1 : Int32) <<< (x1 &&& 31)) ^^^ (-1))))) := hD
        obtain ⟨C_2, eC_2, h⟩ := ltv_ex h
        rw [← eC_2] at hP hD
        refine lv_aload_n hx hb dX6_lift_66 rfl (lv_at hl 0 rfl) ?_
        refine va_get (D := G.1) (ci := 5) (v := .ref (q 2)) (C := RX6) (T := TX6) (N := 7) hx hb hts in_wsX6_lift_X6 hown hK.1 hP 0 rfl rfl 1 (by decide) (w_mem hts 5 rfl) (fun _ h9 => h9) rfl dX6_lift_67 ?_
        refine va_getN (D := G.1) (ci := 3) (v := .int (C_2.1 4)) (C := RX3) (T := TX3) (N := 5) hx hb hts in_wsX6_lift_X3 hown hK.1 hP 2 rfl rfl 3 (by decide) (hK.2.at 29 rfl) (fun _ h9 => h9) rfl dX6_lift_70 ?_
        obtain ⟨r_3, hr_3, h⟩ := bd_ex h
        refine ro_i (va_runS (As := [.int (C_2.1 4)]) (rest := []) ⟨hx, hb, hml, hown, hts⟩ (kJ6_bitCount_0f7a4 l (C_2.1 4) r_3 hr_3) (va_cwS 1 hts gX6_lift_J6_bitCount_0f7a4 rfl rfl rfl (by decide +kernel) ⟨Nat.le_of_ble_eq_true rfl, Nat.le_of_ble_eq_true rfl⟩) noS rfl rfl hl.1 rfl (lv_room (Nat.le_of_ble_eq_true rfl)) dX6_lift_73 ⟨Nat.zero_le _, Nat.zero_le _⟩) ?_
        cases h
      · have h := br_T h c_36
        exact x_throwS (Wd := CW G q) (C := C) (k := 3) (cls := "java/lang/IllegalStateException") (text := "the rule is lifted already") hx hb hl0 hts hown hml hlocks hex hK hE hP hS hl (by decide +kernel) (w_mem hts 3 rfl) (w_mem hts 4 rfl) (List.mem_of_getElem? (i := 5) rfl) (fun w h => List.mem_cons_of_mem _ (List.mem_append_right _ h)) xB_63 xG_63_59 dX6_lift_39 dX6_lift_42 dX6_lift_43 dX6_lift_45 dX6_lift_48 ⟨Nat.le_of_ble_eq_true rfl, Nat.le_of_ble_eq_true rfl, Nat.le_of_ble_eq_true rfl, Nat.le_of_ble_eq_true rfl⟩ ((xl_ h).symm) rfl
    · have h := br_F h c_12
      exact xX6_lift_15 bx hA hK hl0 hE hex C h hP hD hS _ (lv_sub hl [] rfl)
