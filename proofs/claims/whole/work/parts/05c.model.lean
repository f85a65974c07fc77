def rmX7_known : Room := { frames := 4, cells := 0, slots := 0, locals := 90 }

theorem in_wsX7_known_X7 : ∀ w ∈ u_ws RX7 TX7 24, w ∈ wsX7_known := by decide +kernel

set_option maxHeartbeats 4000000 in
set_option maxRecDepth 100000 in
theorem kX7_known (l : Launch) (G : GT) (q : Nat → Nat) (C : St) (sz : Nat) (x1 : Int32) (r : Int32 × St) (h : pX7_known C x1 = some r) : Met l yX7_known wsX7_known rmX7_known (va_Pc [.ref (q 0), .int x1] (wrP G (MW G q C) sz)) (va_Qi (fun v u => (v, u) = r) (fun u t => va_P G.1 vwCl (MW G q u) t.heap) (va_A (MW G q C) sz)) 0 0 (va_A (MW G q C) sz) := by
  refine Met.ofW (cc := cX7_known) (maxL := 2) (ret := (some .char)) (by decide) rfl ?_
  intro p e s m args below meth c s₁ B hml hv
  obtain ⟨rfl, hsz, hP, hK, hD0⟩ := hv
  have bx := bx_of B hml
  subst hsz
  have hD := hD0.self (sz := s.heap.size)
  generalize hAe : va_A (MW G q C) s.heap.size = A at hD ⊢
  have hA : ∀ q : Nat, s.heap.size ≤ q → A q := fun q h => by rw [← hAe]; exact Or.inr h
  have hS : va_S A s.heap s.heap [] := va_S.rf
  obtain ⟨hx, hb, hr, hts, hown, hml, hlocks⟩ := id bx
  have hl := lv_entry ([.ref (q 0), .int x1]) (n := 2) (Nat.le_of_ble_eq_true rfl)
  rw [lg_entry_eq]
  generalize (lg_sl ([.ref (q 0), .int x1]) ++ List.replicate (2 - (lg_sl ([.ref (q 0), .int x1])).length) Slot.unset).toArray = ls at hl ⊢
  have hl : lv_has ls 2 [(0, .ref (q 0)), (1, .int x1)] := hl
  show W p l e rmX7_known s m _ below meth c s.heap [] 0 0 (MQi G (MW G q) A s _ below r) (F0 m 0 ls [])
  unfold pX7_known at h
  refine lv_aload_n hx hb dX7_known_0 rfl (lv_at hl 0 rfl) ?_
  obtain ⟨u_1, hu_1, h⟩ := bd_ex h
  refine wr_v (Wd := MW G q) (va_runV (As := []) (rest := []) ⟨hx, hb, hml, hown, hts⟩ (kX7_deduces l G q C _ u_1 hu_1) (cwV 0 hts gX7_known_X7_deduces rfl rfl rfl (by decide +kernel) ⟨Nat.le_of_ble_eq_true rfl, Nat.le_of_ble_eq_true rfl⟩) (wrV hP hD hK 8 0 rfl rfl) rfl rfl hl.1 rfl (lv_room (Nat.le_of_ble_eq_true rfl)) dX7_known_1 ⟨Nat.zero_le _, Nat.zero_le _⟩) hD hS hA (fun _ => rfl) (fun H locs hP hD hS => ?_)
  refine lv_aload_n hx hb dX7_known_4 rfl (lv_at hl 0 rfl) ?_
  refine lv_aload_n hx hb dX7_known_5 rfl (lv_at hl 0 rfl) ?_
  refine lv_iload_n hx hb dX7_known_6 rfl (lv_at hl 1 rfl) ?_
  obtain ⟨r_2, hr_2, h⟩ := bd_ex h
  refine ro_i (va_runV (As := [.int x1]) (rest := [.ref (q 0)]) ⟨hx, hb, hml, hown, hts⟩ (kX7_isNone l G q u_1 x1 r_2 hr_2) (cwV 1 hts gX7_known_X7_isNone rfl rfl rfl (by decide +kernel) ⟨Nat.le_of_ble_eq_true rfl, Nat.le_of_ble_eq_true rfl⟩) (roV hP hK 8 0 rfl rfl) rfl rfl hl.1 rfl (lv_room (Nat.le_of_ble_eq_true rfl)) dX7_known_7 ⟨Nat.zero_le _, Nat.zero_le _⟩) ?_
  refine lv_iconst (v := 1) hx hb dX7_known_10 (by decide) ?_
  obtain ⟨u_3, hu_3, h⟩ := bd_ex h
  refine wr_i (Wd := MW G q) (va_runV (As := [.int r_2, .int 1]) (rest := []) ⟨hx, hb, hml, hown, hts⟩ (kX7_isThrown l G q u_1 _ r_2 1 u_3 hu_3) (cwV 2 hts gX7_known_X7_isThrown rfl rfl rfl (by decide +kernel) ⟨Nat.le_of_ble_eq_true rfl, Nat.le_of_ble_eq_true rfl⟩) (wrV hP hD hK 8 0 rfl rfl) rfl rfl hl.1 rfl (lv_room (Nat.le_of_ble_eq_true rfl)) dX7_known_11 ⟨Nat.zero_le _, Nat.zero_le _⟩) hD hS hA (fun _ => rfl) (fun H locs hP hD hS => ?_)
  refine lv_if_eq (tgt := 22) hx hb dX7_known_14 (by decide) (fun c_14 => ?_) (fun c_14 => ?_)
  · have h := br_T h c_14
    refine lv_aload_n hx hb dX7_known_22 rfl (lv_at hl 0 rfl) ?_
    refine va_get (D := G.1) (ci := 8) (v := .int (u_3.2.1 5)) (C := RX7) (T := TX7) (N := 24) hx hb hts in_wsX7_known_X7 hown hK.1 hP 0 rfl rfl 21 (by decide) (w_mem hts 1 rfl) (fun _ h9 => h9) rfl dX7_known_23 ?_
    refine lv_iload_n hx hb dX7_known_26 rfl (lv_at hl 1 rfl) ?_
    obtain ⟨r_4, hr_4, h⟩ := bd_ex h
    refine ro_i (va_runS (As := [.int (u_3.2.1 5), .int x1]) (rest := []) ⟨hx, hb, hml, hown, hts⟩ (kX7_has l G q u_3.2 (u_3.2.1 5) x1 r_4 hr_4) (va_cwS 2 hts gX7_known_X7_has rfl rfl rfl (by decide +kernel) ⟨Nat.le_of_ble_eq_true rfl, Nat.le_of_ble_eq_true rfl⟩) (roS hP hK) rfl rfl hl.1 rfl (lv_room (Nat.le_of_ble_eq_true rfl)) dX7_known_27 ⟨Nat.zero_le _, Nat.zero_le _⟩) ?_
    refine lv_if_eq (tgt := 38) hx hb dX7_known_30 (by decide) (fun c_30 => ?_) (fun c_30 => ?_)
    · have h := br_T h c_30
      refine lv_aload_n hx hb dX7_known_38 rfl (lv_at hl 0 rfl) ?_
      refine va_get (D := G.1) (ci := 8) (v := .int (u_3.2.1 6)) (C := RX7) (T := TX7) (N := 24) hx hb hts in_wsX7_known_X7 hown hK.1 hP 0 rfl rfl 22 (by decide) (w_mem hts 2 rfl) (fun _ h9 => h9) rfl dX7_known_39 ?_
      refine lv_iload_n hx hb dX7_known_42 rfl (lv_at hl 1 rfl) ?_
      obtain ⟨r_5, hr_5, h⟩ := bd_ex h
      refine ro_i (va_runS (As := [.int (u_3.2.1 6), .int x1]) (rest := []) ⟨hx, hb, hml, hown, hts⟩ (kX7_has l G q u_3.2 (u_3.2.1 6) x1 r_5 hr_5) (va_cwS 2 hts gX7_known_X7_has rfl rfl rfl (by decide +kernel) ⟨Nat.le_of_ble_eq_true rfl, Nat.le_of_ble_eq_true rfl⟩) (roS hP hK) rfl rfl hl.1 rfl (lv_room (Nat.le_of_ble_eq_true rfl)) dX7_known_43 ⟨Nat.zero_le _, Nat.zero_le _⟩) ?_
      refine lv_if_eq (tgt := 54) hx hb dX7_known_46 (by decide) (fun c_46 => ?_) (fun c_46 => ?_)
      · have h := br_T h c_46
        refine lv_bipush (v := 117) hx hb dX7_known_54 (by decide) ?_
        exact MQi.end hx hb hr hlocks hP hS dX7_known_56 rfl h
      · have h := br_F h c_46
        refine lv_bipush (v := 110) hx hb dX7_known_49 (by decide) ?_
        refine lv_goto (tgt := 56) hx hb dX7_known_51 (by decide) ?_
        exact MQi.end hx hb hr hlocks hP hS dX7_known_56 rfl h
    · have h := br_F h c_30
      refine lv_bipush (v := 105) hx hb dX7_known_33 (by decide) ?_
      refine lv_goto (tgt := 56) hx hb dX7_known_35 (by decide) ?_
      exact MQi.end hx hb hr hlocks hP hS dX7_known_56 rfl h
  · have h := br_F h c_14
    refine lv_bipush (v := 45) hx hb dX7_known_17 (by decide) ?_
    refine lv_goto (tgt := 56) hx hb dX7_known_19 (by decide) ?_
    exact MQi.end hx hb hr hlocks hP hS dX7_known_56 rfl h

def rmX7_reasonOf : Room := { frames := 4, cells := 0, slots := 0, locals := 90 }

theorem in_wsX7_reasonOf_X7 : ∀ w ∈ u_ws RX7 TX7 24, w ∈ wsX7_reasonOf := by decide +kernel

set_option maxHeartbeats 4000000 in
set_option maxRecDepth 100000 in
theorem wX7_reasonOf_34 {p : Program} {l : Launch} {e : Env} {s : State} {m : MethodId} {args : Array Value} {below : List Frame} {meth : Method} {c : Code} {G : GT} {q : Nat → Nat} {A : Nat → Prop} {out : Int32 × St} (bx : BX p RX7 wsX7_reasonOf cX7_reasonOf 2 (some .char) s m args meth c) (hA : ∀ q : Nat, s.heap.size ≤ q → A q) (hK : CK G s) (C : St) (x1 : Int32) (t1 : Int32) (h : pX7_reasonOf_34 C x1 t1 = some out) {H : Heap} {locs : List Loc} (hP : va_P G.1 vwCl (MW G q C) H) (hD : va_D A (MW G q C)) (hS : va_S A s.heap H locs) (ls : Array Slot) (hl : lv_has ls 2 [(0, .ref (q 0)), (1, .int x1)]) : W p l e rmX7_reasonOf s m args below meth c H locs 0 0 (MQi G (MW G q) A s args below out) (F0 m 34 ls [.int t1, .ref (q 0)]) := by
  obtain ⟨hx, hb, hr, hts, hown, hml, hlocks⟩ := id bx
  unfold pX7_reasonOf_34 at h
  refine lv_iconst (v := 2) hx hb dX7_reasonOf_34 (by decide) ?_
  obtain ⟨u_4, hu_4, h⟩ := bd_ex h
  refine wr_i (Wd := MW G q) (va_runV (As := [.int t1, .int 2]) (rest := []) ⟨hx, hb, hml, hown, hts⟩ (kX7_isThrown l G q C _ t1 2 u_4 hu_4) (cwV 2 hts gX7_reasonOf_X7_isThrown rfl rfl rfl (by decide +kernel) ⟨Nat.le_of_ble_eq_true rfl, Nat.le_of_ble_eq_true rfl⟩) (wrV hP hD hK 8 0 rfl rfl) rfl rfl hl.1 rfl (lv_room (Nat.le_of_ble_eq_true rfl)) dX7_reasonOf_35 ⟨Nat.zero_le _, Nat.zero_le _⟩) hD hS hA (fun _ => rfl) (fun H locs hP hD hS => ?_)
  refine lv_if_eq (tgt := 46) hx hb dX7_reasonOf_38 (by decide) (fun c_38 => ?_) (fun c_38 => ?_)
  · have h := br_T h c_38
    refine lv_aload_n hx hb dX7_reasonOf_46 rfl (lv_at hl 0 rfl) ?_
    refine va_get (D := G.1) (ci := 8) (v := .ref (q 9)) (C := RX7) (T := TX7) (N := 24) hx hb hts in_wsX7_reasonOf_X7 hown hK.1 hP 0 rfl rfl 8 (by decide) (w_mem hts 1 rfl) (fun _ h9 => h9) rfl dX7_reasonOf_47 ?_
    refine lv_iload_n hx hb dX7_reasonOf_50 rfl (lv_at hl 1 rfl) ?_
    obtain ⟨g51, h⟩ := gd_ex h
    refine va_cald (D := G.1) hx hb hK.1 hP 9 1 rfl rfl g51 dX7_reasonOf_51 ?_
    obtain ⟨g52, h⟩ := gd_ex h
    exact MQi.end hx hb hr hlocks hP hS dX7_reasonOf_52 (okC_n g52) h
  · have h := br_F h c_38
    refine lv_bipush (v := 45) hx hb dX7_reasonOf_41 (by decide) ?_
    refine lv_goto (tgt := 52) hx hb dX7_reasonOf_43 (by decide) ?_
    exact MQi.end hx hb hr hlocks hP hS dX7_reasonOf_52 rfl h

set_option maxHeartbeats 4000000 in
set_option maxRecDepth 100000 in
theorem kX7_reasonOf (l : Launch) (G : GT) (q : Nat → Nat) (C : St) (sz : Nat) (x1 : Int32) (r : Int32 × St) (h : pX7_reasonOf C x1 = some r) : Met l yX7_reasonOf wsX7_reasonOf rmX7_reasonOf (va_Pc [.ref (q 0), .int x1] (wrP G (MW G q C) sz)) (va_Qi (fun v u => (v, u) = r) (fun u t => va_P G.1 vwCl (MW G q u) t.heap) (va_A (MW G q C) sz)) 0 0 (va_A (MW G q C) sz) := by
  refine Met.ofW (cc := cX7_reasonOf) (maxL := 2) (ret := (some .char)) (by decide) rfl ?_
  intro p e s m args below meth c s₁ B hml hv
  obtain ⟨rfl, hsz, hP, hK, hD0⟩ := hv
  have bx := bx_of B hml
  subst hsz
  have hD := hD0.self (sz := s.heap.size)
  generalize hAe : va_A (MW G q C) s.heap.size = A at hD ⊢
  have hA : ∀ q : Nat, s.heap.size ≤ q → A q := fun q h => by rw [← hAe]; exact Or.inr h
  have hS : va_S A s.heap s.heap [] := va_S.rf
  obtain ⟨hx, hb, hr, hts, hown, hml, hlocks⟩ := id bx
  have hl := lv_entry ([.ref (q 0), .int x1]) (n := 2) (Nat.le_of_ble_eq_true rfl)
  rw [lg_entry_eq]
  generalize (lg_sl ([.ref (q 0), .int x1]) ++ List.replicate (2 - (lg_sl ([.ref (q 0), .int x1])).length) Slot.unset).toArray = ls at hl ⊢
  have hl : lv_has ls 2 [(0, .ref (q 0)), (1, .int x1)] := hl
  show W p l e rmX7_reasonOf s m _ below meth c s.heap [] 0 0 (MQi G (MW G q) A s _ below r) (F0 m 0 ls [])
  unfold pX7_reasonOf at h
  refine lv_aload_n hx hb dX7_reasonOf_0 rfl (lv_at hl 0 rfl) ?_
  obtain ⟨u_1, hu_1, h⟩ := bd_ex h
  refine wr_v (Wd := MW G q) (va_runV (As := []) (rest := []) ⟨hx, hb, hml, hown, hts⟩ (kX7_deduces l G q C _ u_1 hu_1) (cwV 0 hts gX7_reasonOf_X7_deduces rfl rfl rfl (by decide +kernel) ⟨Nat.le_of_ble_eq_true rfl, Nat.le_of_ble_eq_true rfl⟩) (wrV hP hD hK 8 0 rfl rfl) rfl rfl hl.1 rfl (lv_room (Nat.le_of_ble_eq_true rfl)) dX7_reasonOf_1 ⟨Nat.zero_le _, Nat.zero_le _⟩) hD hS hA (fun _ => rfl) (fun H locs hP hD hS => ?_)
  refine lv_aload_n hx hb dX7_reasonOf_4 rfl (lv_at hl 0 rfl) ?_
  refine lv_aload_n hx hb dX7_reasonOf_5 rfl (lv_at hl 0 rfl) ?_
  refine lv_iload_n hx hb dX7_reasonOf_6 rfl (lv_at hl 1 rfl) ?_
  obtain ⟨r_2, hr_2, h⟩ := bd_ex h
  refine ro_i (va_runV (As := [.int x1]) (rest := [.ref (q 0)]) ⟨hx, hb, hml, hown, hts⟩ (kX7_isNone l G q u_1 x1 r_2 hr_2) (cwV 1 hts gX7_reasonOf_X7_isNone rfl rfl rfl (by decide +kernel) ⟨Nat.le_of_ble_eq_true rfl, Nat.le_of_ble_eq_true rfl⟩) (roV hP hK 8 0 rfl rfl) rfl rfl hl.1 rfl (lv_room (Nat.le_of_ble_eq_true rfl)) dX7_reasonOf_7 ⟨Nat.zero_le _, Nat.zero_le _⟩) ?_
  refine lv_iconst (v := 1) hx hb dX7_reasonOf_10 (by decide) ?_
  obtain ⟨u_3, hu_3, h⟩ := bd_ex h
  refine wr_i (Wd := MW G q) (va_runV (As := [.int r_2, .int 1]) (rest := []) ⟨hx, hb, hml, hown, hts⟩ (kX7_isThrown l G q u_1 _ r_2 1 u_3 hu_3) (cwV 2 hts gX7_reasonOf_X7_isThrown rfl rfl rfl (by decide +kernel) ⟨Nat.le_of_ble_eq_true rfl, Nat.le_of_ble_eq_true rfl⟩) (wrV hP hD hK 8 0 rfl rfl) rfl rfl hl.1 rfl (lv_room (Nat.le_of_ble_eq_true rfl)) dX7_reasonOf_11 ⟨Nat.zero_le _, Nat.zero_le _⟩) hD hS hA (fun _ => rfl) (fun H locs hP hD hS => ?_)
  refine lv_if_ne (tgt := 41) hx hb dX7_reasonOf_14 (by decide) (fun c_14 => ?_) (fun c_14 => ?_)
  · have h := br_F h c_14
    refine lv_bipush (v := 45) hx hb dX7_reasonOf_41 (by decide) ?_
    refine lv_goto (tgt := 52) hx hb dX7_reasonOf_43 (by decide) ?_
    exact MQi.end hx hb hr hlocks hP hS dX7_reasonOf_52 rfl h
  · have h := br_T h c_14
    refine lv_aload_n hx hb dX7_reasonOf_17 rfl (lv_at hl 0 rfl) ?_
    refine lv_aload_n hx hb dX7_reasonOf_18 rfl (lv_at hl 0 rfl) ?_
    refine va_get (D := G.1) (ci := 8) (v := .ref (q 9)) (C := RX7) (T := TX7) (N := 24) hx hb hts in_wsX7_reasonOf_X7 hown hK.1 hP 0 rfl rfl 8 (by decide) (w_mem hts 1 rfl) (fun _ h9 => h9) rfl dX7_reasonOf_19 ?_
    refine lv_iload_n hx hb dX7_reasonOf_22 rfl (lv_at hl 1 rfl) ?_
    obtain ⟨g23, h⟩ := gd_ex h
    refine va_cald (D := G.1) hx hb hK.1 hP 9 1 rfl rfl g23 dX7_reasonOf_23 ?_
    refine lv_bipush (v := 45) hx hb dX7_reasonOf_24 (by decide) ?_
    refine lv_icmp_ne (tgt := 33) hx hb dX7_reasonOf_26 (by decide) (fun c_26 => ?_) (fun c_26 => ?_)
    · have h := br_F h c_26
      refine lv_iconst (v := 0) hx hb dX7_reasonOf_33 (by decide) ?_
      exact wX7_reasonOf_34 bx hA hK u_3.2 x1 0 h hP hD hS _ (lv_sub hl [0, 1] rfl)
    · have h := br_T h c_26
      refine lv_iconst (v := 1) hx hb dX7_reasonOf_29 (by decide) ?_
      refine lv_goto (tgt := 34) hx hb dX7_reasonOf_30 (by decide) ?_
      exact wX7_reasonOf_34 bx hA hK u_3.2 x1 1 h hP hD hS _ (lv_sub hl [0, 1] rfl)

def rmX7_reasonRule : Room := { frames := 4, cells := 0, slots := 0, locals := 90 }

theorem in_wsX7_reasonRule_X7 : ∀ w ∈ u_ws RX7 TX7 24, w ∈ wsX7_reasonRule := by decide +kernel

set_option maxHeartbeats 4000000 in
set_option maxRecDepth 100000 in
theorem wX7_reasonRule_34 {p : Program} {l : Launch} {e : Env} {s : State} {m : MethodId} {args : Array Value} {below : List Frame} {meth : Method} {c : Code} {G : GT} {q : Nat → Nat} {A : Nat → Prop} {out : Int32 × St} (bx : BX p RX7 wsX7_reasonRule cX7_reasonRule 2 (some .int) s m args meth c) (hA : ∀ q : Nat, s.heap.size ≤ q → A q) (hK : CK G s) (C : St) (x1 : Int32) (t1 : Int32) (h : pX7_reasonRule_34 C x1 t1 = some out) {H : Heap} {locs : List Loc} (hP : va_P G.1 vwCl (MW G q C) H) (hD : va_D A (MW G q C)) (hS : va_S A s.heap H locs) (ls : Array Slot) (hl : lv_has ls 2 [(0, .ref (q 0)), (1, .int x1)]) : W p l e rmX7_reasonRule s m args below meth c H locs 0 0 (MQi G (MW G q) A s args below out) (F0 m 34 ls [.int t1, .ref (q 0)]) := by
  obtain ⟨hx, hb, hr, hts, hown, hml, hlocks⟩ := id bx
  unfold pX7_reasonRule_34 at h
  refine lv_iconst (v := 2) hx hb dX7_reasonRule_34 (by decide) ?_
  obtain ⟨u_4, hu_4, h⟩ := bd_ex h
  refine wr_i (Wd := MW G q) (va_runV (As := [.int t1, .int 2]) (rest := []) ⟨hx, hb, hml, hown, hts⟩ (kX7_isThrown l G q C _ t1 2 u_4 hu_4) (cwV 2 hts gX7_reasonRule_X7_isThrown rfl rfl rfl (by decide +kernel) ⟨Nat.le_of_ble_eq_true rfl, Nat.le_of_ble_eq_true rfl⟩) (wrV hP hD hK 8 0 rfl rfl) rfl rfl hl.1 rfl (lv_room (Nat.le_of_ble_eq_true rfl)) dX7_reasonRule_35 ⟨Nat.zero_le _, Nat.zero_le _⟩) hD hS hA (fun _ => rfl) (fun H locs hP hD hS => ?_)
  refine lv_if_eq (tgt := 45) hx hb dX7_reasonRule_38 (by decide) (fun c_38 => ?_) (fun c_38 => ?_)
  · have h := br_T h c_38
    refine lv_aload_n hx hb dX7_reasonRule_45 rfl (lv_at hl 0 rfl) ?_
    refine va_get (D := G.1) (ci := 8) (v := .ref (q 16)) (C := RX7) (T := TX7) (N := 24) hx hb hts in_wsX7_reasonRule_X7 hown hK.1 hP 0 rfl rfl 15 (by decide) (w_mem hts 2 rfl) (fun _ h9 => h9) rfl dX7_reasonRule_46 ?_
    refine lv_iload_n hx hb dX7_reasonRule_49 rfl (lv_at hl 1 rfl) ?_
    obtain ⟨g50, h⟩ := gd_ex h
    refine va_iald (D := G.1) hx hb hK.1 hP 16 0 rfl rfl g50 dX7_reasonRule_50 ?_
    exact MQi.end hx hb hr hlocks hP hS dX7_reasonRule_51 rfl h
  · have h := br_F h c_38
    refine lv_iconst (v := 0) hx hb dX7_reasonRule_41 (by decide) ?_
    refine lv_goto (tgt := 51) hx hb dX7_reasonRule_42 (by decide) ?_
    exact MQi.end hx hb hr hlocks hP hS dX7_reasonRule_51 rfl h

set_option maxHeartbeats 4000000 in
set_option maxRecDepth 100000 in
theorem kX7_reasonRule (l : Launch) (G : GT) (q : Nat → Nat) (C : St) (sz : Nat) (x1 : Int32) (r : Int32 × St) (h : pX7_reasonRule C x1 = some r) : Met l yX7_reasonRule wsX7_reasonRule rmX7_reasonRule (va_Pc [.ref (q 0), .int x1] (wrP G (MW G q C) sz)) (va_Qi (fun v u => (v, u) = r) (fun u t => va_P G.1 vwCl (MW G q u) t.heap) (va_A (MW G q C) sz)) 0 0 (va_A (MW G q C) sz) := by
  refine Met.ofW (cc := cX7_reasonRule) (maxL := 2) (ret := (some .int)) (by decide) rfl ?_
  intro p e s m args below meth c s₁ B hml hv
  obtain ⟨rfl, hsz, hP, hK, hD0⟩ := hv
  have bx := bx_of B hml
  subst hsz
  have hD := hD0.self (sz := s.heap.size)
  generalize hAe : va_A (MW G q C) s.heap.size = A at hD ⊢
  have hA : ∀ q : Nat, s.heap.size ≤ q → A q := fun q h => by rw [← hAe]; exact Or.inr h
  have hS : va_S A s.heap s.heap [] := va_S.rf
  obtain ⟨hx, hb, hr, hts, hown, hml, hlocks⟩ := id bx
  have hl := lv_entry ([.ref (q 0), .int x1]) (n := 2) (Nat.le_of_ble_eq_true rfl)
  rw [lg_entry_eq]
  generalize (lg_sl ([.ref (q 0), .int x1]) ++ List.replicate (2 - (lg_sl ([.ref (q 0), .int x1])).length) Slot.unset).toArray = ls at hl ⊢
  have hl : lv_has ls 2 [(0, .ref (q 0)), (1, .int x1)] := hl
  show W p l e rmX7_reasonRule s m _ below meth c s.heap [] 0 0 (MQi G (MW G q) A s _ below r) (F0 m 0 ls [])
  unfold pX7_reasonRule at h
  refine lv_aload_n hx hb dX7_reasonRule_0 rfl (lv_at hl 0 rfl) ?_
  obtain ⟨u_1, hu_1, h⟩ := bd_ex h
  refine wr_v (Wd := MW G q) (va_runV (As := []) (rest := []) ⟨hx, hb, hml, hown, hts⟩ (kX7_deduces l G q C _ u_1 hu_1) (cwV 0 hts gX7_reasonRule_X7_deduces rfl rfl rfl (by decide +kernel) ⟨Nat.le_of_ble_eq_true rfl, Nat.le_of_ble_eq_true rfl⟩) (wrV hP hD hK 8 0 rfl rfl) rfl rfl hl.1 rfl (lv_room (Nat.le_of_ble_eq_true rfl)) dX7_reasonRule_1 ⟨Nat.zero_le _, Nat.zero_le _⟩) hD hS hA (fun _ => rfl) (fun H locs hP hD hS => ?_)
  refine lv_aload_n hx hb dX7_reasonRule_4 rfl (lv_at hl 0 rfl) ?_
  refine lv_aload_n hx hb dX7_reasonRule_5 rfl (lv_at hl 0 rfl) ?_
  refine lv_iload_n hx hb dX7_reasonRule_6 rfl (lv_at hl 1 rfl) ?_
  obtain ⟨r_2, hr_2, h⟩ := bd_ex h
  refine ro_i (va_runV (As := [.int x1]) (rest := [.ref (q 0)]) ⟨hx, hb, hml, hown, hts⟩ (kX7_isNone l G q u_1 x1 r_2 hr_2) (cwV 1 hts gX7_reasonRule_X7_isNone rfl rfl rfl (by decide +kernel) ⟨Nat.le_of_ble_eq_true rfl, Nat.le_of_ble_eq_true rfl⟩) (roV hP hK 8 0 rfl rfl) rfl rfl hl.1 rfl (lv_room (Nat.le_of_ble_eq_true rfl)) dX7_reasonRule_7 ⟨Nat.zero_le _, Nat.zero_le _⟩) ?_
  refine lv_iconst (v := 1) hx hb dX7_reasonRule_10 (by decide) ?_
  obtain ⟨u_3, hu_3, h⟩ := bd_ex h
  refine wr_i (Wd := MW G q) (va_runV (As := [.int r_2, .int 1]) (rest := []) ⟨hx, hb, hml, hown, hts⟩ (kX7_isThrown l G q u_1 _ r_2 1 u_3 hu_3) (cwV 2 hts gX7_reasonRule_X7_isThrown rfl rfl rfl (by decide +kernel) ⟨Nat.le_of_ble_eq_true rfl, Nat.le_of_ble_eq_true rfl⟩) (wrV hP hD hK 8 0 rfl rfl) rfl rfl hl.1 rfl (lv_room (Nat.le_of_ble_eq_true rfl)) dX7_reasonRule_11 ⟨Nat.zero_le _, Nat.zero_le _⟩) hD hS hA (fun _ => rfl) (fun H locs hP hD hS => ?_)
  refine lv_if_ne (tgt := 41) hx hb dX7_reasonRule_14 (by decide) (fun c_14 => ?_) (fun c_14 => ?_)
  · have h := br_F h c_14
    refine lv_iconst (v := 0) hx hb dX7_reasonRule_41 (by decide) ?_
    refine lv_goto (tgt := 51) hx hb dX7_reasonRule_42 (by decide) ?_
    exact MQi.end hx hb hr hlocks hP hS dX7_reasonRule_51 rfl h
  · have h := br_T h c_14
    refine lv_aload_n hx hb dX7_reasonRule_17 rfl (lv_at hl 0 rfl) ?_
    refine lv_aload_n hx hb dX7_reasonRule_18 rfl (lv_at hl 0 rfl) ?_
    refine va_get (D := G.1) (ci := 8) (v := .ref (q 9)) (C := RX7) (T := TX7) (N := 24) hx hb hts in_wsX7_reasonRule_X7 hown hK.1 hP 0 rfl rfl 8 (by decide) (w_mem hts 1 rfl) (fun _ h9 => h9) rfl dX7_reasonRule_19 ?_
    refine lv_iload_n hx hb dX7_reasonRule_22 rfl (lv_at hl 1 rfl) ?_
    obtain ⟨g23, h⟩ := gd_ex h
    refine va_cald (D := G.1) hx hb hK.1 hP 9 1 rfl rfl g23 dX7_reasonRule_23 ?_
    refine lv_bipush (v := 114) hx hb dX7_reasonRule_24 (by decide) ?_
    refine lv_icmp_eq (tgt := 33) hx hb dX7_reasonRule_26 (by decide) (fun c_26 => ?_) (fun c_26 => ?_)
    · have h := br_T h c_26
      refine lv_iconst (v := 0) hx hb dX7_reasonRule_33 (by decide) ?_
      exact wX7_reasonRule_34 bx hA hK u_3.2 x1 0 h hP hD hS _ (lv_sub hl [0, 1] rfl)
    · have h := br_F h c_26
      refine lv_iconst (v := 1) hx hb dX7_reasonRule_29 (by decide) ?_
      refine lv_goto (tgt := 34) hx hb dX7_reasonRule_30 (by decide) ?_
      exact wX7_reasonRule_34 bx hA hK u_3.2 x1 1 h hP hD hS _ (lv_sub hl [0, 1] rfl)

def rmX7_unknown : Room := { frames := 5, cells := 0, slots := 0, locals := 110 }

theorem in_wsX7_unknown_X7 : ∀ w ∈ u_ws RX7 TX7 24, w ∈ wsX7_unknown := by decide +kernel

set_option maxHeartbeats 4000000 in
set_option maxRecDepth 100000 in
theorem kX7_unknown (l : Launch) (G : GT) (q : Nat → Nat) (C : St) (sz : Nat) (r : Int32 × St) (h : pX7_unknown C = some r) : Met l yX7_unknown wsX7_unknown rmX7_unknown (va_Pc [.ref (q 0)] (wrP G (MW G q C) sz)) (va_Qi (fun v u => (v, u) = r) (fun u t => va_P G.1 vwCl (MW G q u) t.heap) (va_A (MW G q C) sz)) 0 0 (va_A (MW G q C) sz) := by
  refine Met.ofW (cc := cX7_unknown) (maxL := 1) (ret := (some .int)) (by decide) rfl ?_
  intro p e s m args below meth c s₁ B hml hv
  obtain ⟨rfl, hsz, hP, hK, hD0⟩ := hv
  have bx := bx_of B hml
  subst hsz
  have hD := hD0.self (sz := s.heap.size)
  generalize hAe : va_A (MW G q C) s.heap.size = A at hD ⊢
  have hA : ∀ q : Nat, s.heap.size ≤ q → A q := fun q h => by rw [← hAe]; exact Or.inr h
  have hS : va_S A s.heap s.heap [] := va_S.rf
  obtain ⟨hx, hb, hr, hts, hown, hml, hlocks⟩ := id bx
  have hl := lv_entry ([.ref (q 0)]) (n := 1) (Nat.le_of_ble_eq_true rfl)
  rw [lg_entry_eq]
  generalize (lg_sl ([.ref (q 0)]) ++ List.replicate (1 - (lg_sl ([.ref (q 0)])).length) Slot.unset).toArray = ls at hl ⊢
  have hl : lv_has ls 1 [(0, .ref (q 0))] := hl
  show W p l e rmX7_unknown s m _ below meth c s.heap [] 0 0 (MQi G (MW G q) A s _ below r) (F0 m 0 ls [])
  unfold pX7_unknown at h
  refine lv_aload_n hx hb dX7_unknown_0 rfl (lv_at hl 0 rfl) ?_
  refine lv_iconst (v := 0) hx hb dX7_unknown_1 (by decide) ?_
  refine va_put (D := G.1) (ci := 8) (v := .int 0) (ty := .int) (C := RX7) (T := TX7) (N := 24) hx hb hts in_wsX7_unknown_X7 tyX7 tyX7_ok nmX7 hown hK.1 hP hD hS 0 rfl rfl 23 (by decide) (w_mem hts 1 rfl) (fun _ h9 => h9) rfl (by decide +kernel) rfl rfl (Nat.le_of_ble_eq_true rfl) dX7_unknown_2 (fun H locs hP hD hS => ?_)
  have hP : va_P G.1 vwCl (MW G q (sS C 7 0)) H := hP
  have hD : va_D A (MW G q (sS C 7 0)) := hD
  obtain ⟨C_1, eC_1, h⟩ := ltv_ex h
  rw [← eC_1] at hP hD
  refine lv_aload_n hx hb dX7_unknown_5 rfl (lv_at hl 0 rfl) ?_
  obtain ⟨u_2, hu_2, h⟩ := bd_ex h
  refine wr_i (Wd := MW G q) (va_runV (As := []) (rest := []) ⟨hx, hb, hml, hown, hts⟩ (kX7_unknowns l G q C_1 _ u_2 hu_2) (cwV 0 hts gX7_unknown_X7_unknowns rfl rfl rfl (by decide +kernel) ⟨Nat.le_of_ble_eq_true rfl, Nat.le_of_ble_eq_true rfl⟩) (wrV hP hD hK 8 0 rfl rfl) rfl rfl hl.1 rfl (lv_room (Nat.le_of_ble_eq_true rfl)) dX7_unknown_6 ⟨Nat.zero_le _, Nat.zero_le _⟩) hD hS hA (fun _ => rfl) (fun H locs hP hD hS => ?_)
  exact MQi.end hx hb hr hlocks hP hS dX7_unknown_9 rfl h

def rmX7_isNoSet : Room := { frames := 1, cells := 0, slots := 0, locals := 22 }

theorem in_wsX7_isNoSet_X7 : ∀ w ∈ u_ws RX7 TX7 24, w ∈ wsX7_isNoSet := by decide +kernel

set_option maxHeartbeats 4000000 in
set_option maxRecDepth 100000 in
theorem wX7_isNoSet_20 {p : Program} {l : Launch} {e : Env} {s : State} {m : MethodId} {args : Array Value} {below : List Frame} {meth : Method} {c : Code} {G : GT} {q : Nat → Nat} {A : Nat → Prop} {out : Int32 × St} (bx : BX p RX7 wsX7_isNoSet cX7_isNoSet 2 (some .boolean) s m args meth c) (hA : ∀ q : Nat, s.heap.size ≤ q → A q) (hK : CK G s) (C : St) (t1 : Int32) (h : pX7_isNoSet_20 C t1 = some out) {H : Heap} {locs : List Loc} (hP : va_P G.1 vwCl (MW G q C) H) (hD : va_D A (MW G q C)) (hS : va_S A s.heap H locs) (ls : Array Slot) (hl : lv_has ls 2 []) : W p l e rmX7_isNoSet s m args below meth c H locs 0 0 (MQi G (MW G q) A s args below out) (F0 m 20 ls [.int t1, .ref (q 0)]) := by
  obtain ⟨hx, hb, hr, hts, hown, hml, hlocks⟩ := id bx
  unfold pX7_isNoSet_20 at h
  refine lv_iconst (v := 1) hx hb dX7_isNoSet_20 (by decide) ?_
  obtain ⟨u_1, hu_1, h⟩ := bd_ex h
  refine wr_i (Wd := MW G q) (va_runV (As := [.int t1, .int 1]) (rest := []) ⟨hx, hb, hml, hown, hts⟩ (kX7_isThrown l G q C _ t1 1 u_1 hu_1) (cwV 2 hts gX7_isNoSet_X7_isThrown rfl rfl rfl (by decide +kernel) ⟨Nat.le_of_ble_eq_true rfl, Nat.le_of_ble_eq_true rfl⟩) (wrV hP hD hK 8 0 rfl rfl) rfl rfl hl.1 rfl (lv_room (Nat.le_of_ble_eq_true rfl)) dX7_isNoSet_21 ⟨Nat.zero_le _, Nat.zero_le _⟩) hD hS hA (fun _ => rfl) (fun H locs hP hD hS => ?_)
  obtain ⟨g24, h⟩ := gd_ex h
  exact MQi.end hx hb hr hlocks hP hS dX7_isNoSet_24 (okZ_n g24) h

set_option maxHeartbeats 4000000 in
set_option maxRecDepth 100000 in
theorem wX7_isNoSet_15 {p : Program} {l : Launch} {e : Env} {s : State} {m : MethodId} {args : Array Value} {below : List Frame} {meth : Method} {c : Code} {G : GT} {q : Nat → Nat} {A : Nat → Prop} {out : Int32 × St} (bx : BX p RX7 wsX7_isNoSet cX7_isNoSet 2 (some .boolean) s m args meth c) (hA : ∀ q : Nat, s.heap.size ≤ q → A q) (hK : CK G s) (C : St) (h : pX7_isNoSet_15 C = some out) {H : Heap} {locs : List Loc} (hP : va_P G.1 vwCl (MW G q C) H) (hD : va_D A (MW G q C)) (hS : va_S A s.heap H locs) (ls : Array Slot) (hl : lv_has ls 2 []) : W p l e rmX7_isNoSet s m args below meth c H locs 0 0 (MQi G (MW G q) A s args below out) (F0 m 15 ls [.ref (q 0)]) := by
  obtain ⟨hx, hb, hr, hts, hown, hml, hlocks⟩ := id bx
  unfold pX7_isNoSet_15 at h
  refine lv_iconst (v := 1) hx hb dX7_isNoSet_15 (by decide) ?_
  refine lv_goto (tgt := 20) hx hb dX7_isNoSet_16 (by decide) ?_
  exact wX7_isNoSet_20 bx hA hK C 1 h hP hD hS _ (lv_sub hl [] rfl)

set_option maxHeartbeats 4000000 in
set_option maxRecDepth 100000 in
theorem kX7_isNoSet (l : Launch) (G : GT) (q : Nat → Nat) (C : St) (sz : Nat) (x1 : Int32) (r : Int32 × St) (h : pX7_isNoSet C x1 = some r) : Met l yX7_isNoSet wsX7_isNoSet rmX7_isNoSet (va_Pc [.ref (q 0), .int x1] (wrP G (MW G q C) sz)) (va_Qi (fun v u => (v, u) = r) (fun u t => va_P G.1 vwCl (MW G q u) t.heap) (va_A (MW G q C) sz)) 0 0 (va_A (MW G q C) sz) := by
  refine Met.ofW (cc := cX7_isNoSet) (maxL := 2) (ret := (some .boolean)) (by decide) rfl ?_
  intro p e s m args below meth c s₁ B hml hv
  obtain ⟨rfl, hsz, hP, hK, hD0⟩ := hv
  have bx := bx_of B hml
  subst hsz
  have hD := hD0.self (sz := s.heap.size)
  generalize hAe : va_A (MW G q C) s.heap.size = A at hD ⊢
  have hA : ∀ q : Nat, s.heap.size ≤ q → A q := fun q h => by rw [← hAe]; exact Or.inr h
  have hS : va_S A s.heap s.heap [] := va_S.rf
  obtain ⟨hx, hb, hr, hts, hown, hml, hlocks⟩ := id bx
  have hl := lv_entry ([.ref (q 0), .int x1]) (n := 2) (Nat.le_of_ble_eq_true rfl)
  rw [lg_entry_eq]
  generalize (lg_sl ([.ref (q 0), .int x1]) ++ List.replicate (2 - (lg_sl ([.ref (q 0), .int x1])).length) Slot.unset).toArray = ls at hl ⊢
  have hl : lv_has ls 2 [(0, .ref (q 0)), (1, .int x1)] := hl
  show W p l e rmX7_isNoSet s m _ below meth c s.heap [] 0 0 (MQi G (MW G q) A s _ below r) (F0 m 0 ls [])
  unfold pX7_isNoSet at h
  refine lv_aload_n hx hb dX7_isNoSet_0 rfl (lv_at hl 0 rfl) ?_
  refine lv_iload_n hx hb dX7_isNoSet_1 rfl (lv_at hl 1 rfl) ?_
  refine lv_if_lt (tgt := 15) hx hb dX7_isNoSet_2 (by decide) (fun c_2 => ?_) (fun c_2 => ?_)
  · have h := br_T h c_2
    exact wX7_isNoSet_15 bx hA hK C h hP hD hS _ (lv_sub hl [] rfl)
  · have h := br_F h c_2
    refine lv_iload_n hx hb dX7_isNoSet_5 rfl (lv_at hl 1 rfl) ?_
    refine lv_iconst (v := 1) hx hb dX7_isNoSet_6 (by decide) ?_
    refine lv_aload_n hx hb dX7_isNoSet_7 rfl (lv_at hl 0 rfl) ?_
    refine va_get (D := G.1) (ci := 8) (v := .int (C.1 0)) (C := RX7) (T := TX7) (N := 24) hx hb hts in_wsX7_isNoSet_X7 hown hK.1 hP 0 rfl rfl 16 (by decide) (w_mem hts 1 rfl) (fun _ h9 => h9) rfl dX7_isNoSet_8 ?_
    refine lv_ishl hx hb dX7_isNoSet_11 ?_
    refine lv_icmp_lt (tgt := 19) hx hb dX7_isNoSet_12 (by decide) (fun c_12 => ?_) (fun c_12 => ?_)
    · have h := br_T h c_12
      refine lv_iconst (v := 0) hx hb dX7_isNoSet_19 (by decide) ?_
      exact wX7_isNoSet_20 bx hA hK C 0 h hP hD hS _ (lv_sub hl [] rfl)
    · have h := br_F h c_12
      exact wX7_isNoSet_15 bx hA hK C h hP hD hS _ (lv_sub hl [] rfl)

def rmX7_isConfiguration : Room := { frames := 3, cells := 0, slots := 0, locals := 68 }

set_option maxHeartbeats 4000000 in
set_option maxRecDepth 100000 in
theorem kX7_isConfiguration (l : Launch) (G : GT) (q : Nat → Nat) (C : St) (sz : Nat) (x1 : Int32) (r : Int32 × St) (h : pX7_isConfiguration C x1 = some r) : Met l yX7_isConfiguration wsX7_isConfiguration rmX7_isConfiguration (va_Pc [.ref (q 0), .int x1] (wrP G (MW G q C) sz)) (va_Qi (fun v u => (v, u) = r) (fun u t => va_P G.1 vwCl (MW G q u) t.heap) (va_A (MW G q C) sz)) 0 0 (va_A (MW G q C) sz) := by
  refine Met.ofW (cc := cX7_isConfiguration) (maxL := 2) (ret := (some .boolean)) (by decide) rfl ?_
  intro p e s m args below meth c s₁ B hml hv
  obtain ⟨rfl, hsz, hP, hK, hD0⟩ := hv
  have bx := bx_of B hml
  subst hsz
  have hD := hD0.self (sz := s.heap.size)
  generalize hAe : va_A (MW G q C) s.heap.size = A at hD ⊢
  have hA : ∀ q : Nat, s.heap.size ≤ q → A q := fun q h => by rw [← hAe]; exact Or.inr h
  have hS : va_S A s.heap s.heap [] := va_S.rf
  obtain ⟨hx, hb, hr, hts, hown, hml, hlocks⟩ := id bx
  have hl := lv_entry ([.ref (q 0), .int x1]) (n := 2) (Nat.le_of_ble_eq_true rfl)
  rw [lg_entry_eq]
  generalize (lg_sl ([.ref (q 0), .int x1]) ++ List.replicate (2 - (lg_sl ([.ref (q 0), .int x1])).length) Slot.unset).toArray = ls at hl ⊢
  have hl : lv_has ls 2 [(0, .ref (q 0)), (1, .int x1)] := hl
  show W p l e rmX7_isConfiguration s m _ below meth c s.heap [] 0 0 (MQi G (MW G q) A s _ below r) (F0 m 0 ls [])
  unfold pX7_isConfiguration at h
  refine lv_aload_n hx hb dX7_isConfiguration_0 rfl (lv_at hl 0 rfl) ?_
  refine lv_iload_n hx hb dX7_isConfiguration_1 rfl (lv_at hl 1 rfl) ?_
  obtain ⟨u_1, hu_1, h⟩ := bd_ex h
  refine wr_i (Wd := MW G q) (va_runV (As := [.int x1]) (rest := []) ⟨hx, hb, hml, hown, hts⟩ (kX7_isNoSet l G q C _ x1 u_1 hu_1) (cwV 1 hts gX7_isConfiguration_X7_isNoSet rfl rfl rfl (by decide +kernel) ⟨Nat.le_of_ble_eq_true rfl, Nat.le_of_ble_eq_true rfl⟩) (wrV hP hD hK 8 0 rfl rfl) rfl rfl hl.1 rfl (lv_room (Nat.le_of_ble_eq_true rfl)) dX7_isConfiguration_2 ⟨Nat.zero_le _, Nat.zero_le _⟩) hD hS hA (fun _ => rfl) (fun H locs hP hD hS => ?_)
  refine lv_if_ne (tgt := 20) hx hb dX7_isConfiguration_5 (by decide) (fun c_5 => ?_) (fun c_5 => ?_)
  · have h := br_F h c_5
    refine lv_iconst (v := 0) hx hb dX7_isConfiguration_20 (by decide) ?_
    exact MQi.end hx hb hr hlocks hP hS dX7_isConfiguration_21 rfl h
  · have h := br_T h c_5
    refine lv_aload_n hx hb dX7_isConfiguration_8 rfl (lv_at hl 0 rfl) ?_
    refine lv_iload_n hx hb dX7_isConfiguration_9 rfl (lv_at hl 1 rfl) ?_
    obtain ⟨r_2, hr_2, h⟩ := bd_ex h
    refine ro_i (va_runV (As := [.int x1]) (rest := []) ⟨hx, hb, hml, hown, hts⟩ (kX7_isGood l G q u_1.2 x1 r_2 hr_2) (cwV 1 hts gX7_isConfiguration_X7_isGood rfl rfl rfl (by decide +kernel) ⟨Nat.le_of_ble_eq_true rfl, Nat.le_of_ble_eq_true rfl⟩) (roV hP hK 8 0 rfl rfl) rfl rfl hl.1 rfl (lv_room (Nat.le_of_ble_eq_true rfl)) dX7_isConfiguration_10 ⟨Nat.zero_le _, Nat.zero_le _⟩) ?_
    refine lv_if_eq (tgt := 20) hx hb dX7_isConfiguration_13 (by decide) (fun c_13 => ?_) (fun c_13 => ?_)
    · have h := br_T h c_13
      refine lv_iconst (v := 0) hx hb dX7_isConfiguration_20 (by decide) ?_
      exact MQi.end hx hb hr hlocks hP hS dX7_isConfiguration_21 rfl h
    · have h := br_F h c_13
      refine lv_iconst (v := 1) hx hb dX7_isConfiguration_16 (by decide) ?_
      refine lv_goto (tgt := 21) hx hb dX7_isConfiguration_17 (by decide) ?_
      exact MQi.end hx hb hr hlocks hP hS dX7_isConfiguration_21 rfl h

def rmX7_completions : Room := { frames := 4, cells := 0, slots := 0, locals := 89 }

theorem in_wsX7_completions_X7 : ∀ w ∈ u_ws RX7 TX7 24, w ∈ wsX7_completions := by decide +kernel

set_option maxHeartbeats 4000000 in
set_option maxRecDepth 100000 in
theorem wX7_completions_33 {p : Program} {l : Launch} {e : Env} {s : State} {m : MethodId} {args : Array Value} {below : List Frame} {meth : Method} {c : Code} {G : GT} {q : Nat → Nat} {A : Nat → Prop} {out : Int64 × St} (bx : BX p RX7 wsX7_completions cX7_completions 4 (some .long) s m args meth c) (hA : ∀ q : Nat, s.heap.size ≤ q → A q) (hK : CK G s) {k9 : St → Int64 → Int32 → Option (Int64 × St)} (hk9 : ∀ (C : St) (x1 : Int64) (x3 : Int32), k9 C x1 x3 = some out → ∀ (H : Heap) (locs : List Loc) (hP : va_P G.1 vwCl (MW G q C) H) (hD : va_D A (MW G q C)) (hS : va_S A s.heap H locs), ∀ (ls : Array Slot), lv_has ls 4 [(0, .ref (q 0)), (1, .long x1), (3, .int x3)] → W p l e rmX7_completions s m args below meth c H locs 0 0 (MQl G (MW G q) A s args below out) (F0 m 9 ls [])) (C : St) (x3 : Int32) (t0 : Int64) (t1 : Int64) (h : pX7_completions_33 k9 C x3 t0 t1 = some out) {H : Heap} {locs : List Loc} (hP : va_P G.1 vwCl (MW G q C) H) (hD : va_D A (MW G q C)) (hS : va_S A s.heap H locs) (ls : Array Slot) (hl : lv_has ls 4 [(0, .ref (q 0)), (3, .int x3)]) : W p l e rmX7_completions s m args below meth c H locs 0 0 (MQl G (MW G q) A s args below out) (F0 m 33 ls [.long t1, .long t0]) := by
  obtain ⟨hx, hb, hr, hts, hown, hml, hlocks⟩ := id bx
  unfold pX7_completions_33 at h
  refine lv_ladd hx hb dX7_completions_33 ?_
  refine lv_topl (fun v_3 ev_3 => ?_)
  have h := ltv_at h v_3 ev_3
  refine lv_lstore_n (lv' := [(1, .long v_3), (0, .ref (q 0)), (3, .int x3)]) hx hb dX7_completions_34 rfl hl (by decide) rfl (fun ls hl => ?_)
  obtain ⟨v_4, ev_4, h⟩ := ltv_ex h
  refine lv_iinc (v := v_4) (lv' := [(3, .int v_4), (1, .long v_3), (0, .ref (q 0))]) hx hb dX7_completions_35 hl (k := 2) rfl (by rw [ev_4]; rfl) (by decide) rfl (fun ls hl => ?_)
  refine lv_goto (tgt := 9) hx hb dX7_completions_38 (by decide) ?_
  exact hk9 C v_3 v_4 h _ _ hP hD hS _ (lv_sub hl [2, 1, 0] rfl)

set_option maxHeartbeats 4000000 in
set_option maxRecDepth 100000 in
theorem wX7_completions_9_b {p : Program} {l : Launch} {e : Env} {s : State} {m : MethodId} {args : Array Value} {below : List Frame} {meth : Method} {c : Code} {G : GT} {q : Nat → Nat} {A : Nat → Prop} {out : Int64 × St} (bx : BX p RX7 wsX7_completions cX7_completions 4 (some .long) s m args meth c) (hA : ∀ q : Nat, s.heap.size ≤ q → A q) (hK : CK G s) {k9 : St → Int64 → Int32 → Option (Int64 × St)} (hk9 : ∀ (C : St) (x1 : Int64) (x3 : Int32), k9 C x1 x3 = some out → ∀ (H : Heap) (locs : List Loc) (hP : va_P G.1 vwCl (MW G q C) H) (hD : va_D A (MW G q C)) (hS : va_S A s.heap H locs), ∀ (ls : Array Slot), lv_has ls 4 [(0, .ref (q 0)), (1, .long x1), (3, .int x3)] → W p l e rmX7_completions s m args below meth c H locs 0 0 (MQl G (MW G q) A s args below out) (F0 m 9 ls [])) (C : St) (x1 : Int64) (x3 : Int32) (h : pX7_completions_9_b k9 C x1 x3 = some out) {H : Heap} {locs : List Loc} (hP : va_P G.1 vwCl (MW G q C) H) (hD : va_D A (MW G q C)) (hS : va_S A s.heap H locs) (ls : Array Slot) (hl : lv_has ls 4 [(0, .ref (q 0)), (1, .long x1), (3, .int x3)]) : W p l e rmX7_completions s m args below meth c H locs 0 0 (MQl G (MW G q) A s args below out) (F0 m 9 ls []) := by
  obtain ⟨hx, hb, hr, hts, hown, hml, hlocks⟩ := id bx
  unfold pX7_completions_9_b at h
  refine lv_iload_n hx hb dX7_completions_9 rfl (lv_at hl 2 rfl) ?_
  refine lv_iconst (v := 1) hx hb dX7_completions_10 (by decide) ?_
  refine lv_aload_n hx hb dX7_completions_11 rfl (lv_at hl 0 rfl) ?_
  refine va_get (D := G.1) (ci := 8) (v := .int (C.1 0)) (C := RX7) (T := TX7) (N := 24) hx hb hts in_wsX7_completions_X7 hown hK.1 hP 0 rfl rfl 16 (by decide) (w_mem hts 2 rfl) (fun _ h9 => h9) rfl dX7_completions_12 ?_
  refine lv_ishl hx hb dX7_completions_15 ?_
  refine lv_icmp_ge (tgt := 41) hx hb dX7_completions_16 (by decide) (fun c_16 => ?_) (fun c_16 => ?_)
  · have h := br_T h c_16
    refine lv_lload_n hx hb dX7_completions_41 rfl (lv_at hl 1 rfl) ?_
    exact MQl.end hx hb hr hlocks hP hS dX7_completions_42 h
  · have h := br_F h c_16
    refine lv_lload_n hx hb dX7_completions_19 rfl (lv_at hl 1 rfl) ?_
    refine lv_aload_n hx hb dX7_completions_20 rfl (lv_at hl 0 rfl) ?_
    refine lv_iload_n hx hb dX7_completions_21 rfl (lv_at hl 2 rfl) ?_
    obtain ⟨r_2, hr_2, h⟩ := bd_ex h
    refine ro_i (va_runV (As := [.int x3]) (rest := [.long x1]) ⟨hx, hb, hml, hown, hts⟩ (kX7_completes l G q C x3 r_2 hr_2) (cwV 1 hts gX7_completions_X7_completes rfl rfl rfl (by decide +kernel) ⟨Nat.le_of_ble_eq_true rfl, Nat.le_of_ble_eq_true rfl⟩) (roV hP hK 8 0 rfl rfl) rfl rfl hl.1 rfl (lv_room (Nat.le_of_ble_eq_true rfl)) dX7_completions_22 ⟨Nat.zero_le _, Nat.zero_le _⟩) ?_
    refine lv_if_eq (tgt := 32) hx hb dX7_completions_25 (by decide) (fun c_25 => ?_) (fun c_25 => ?_)
    · have h := br_T h c_25
      refine lv_lconst (v := 0) hx hb dX7_completions_32 (by decide) ?_
      exact wX7_completions_33 bx hA hK hk9 C x3 x1 0 h hP hD hS _ (lv_sub hl [0, 2] rfl)
    · have h := br_F h c_25
      refine lv_lconst (v := 1) hx hb dX7_completions_28 (by decide) ?_
      refine lv_goto (tgt := 33) hx hb dX7_completions_29 (by decide) ?_
      exact wX7_completions_33 bx hA hK hk9 C x3 x1 1 h hP hD hS _ (lv_sub hl [0, 2] rfl)

theorem wX7_completions_9 {p : Program} {l : Launch} {e : Env} {s : State} {m : MethodId} {args : Array Value} {below : List Frame} {meth : Method} {c : Code} {G : GT} {q : Nat → Nat} {A : Nat → Prop} {out : Int64 × St} (bx : BX p RX7 wsX7_completions cX7_completions 4 (some .long) s m args meth c) (hA : ∀ q : Nat, s.heap.size ≤ q → A q) (hK : CK G s) :
    ∀ (n : Nat) (C : St) (x1 : Int64) (x3 : Int32), pX7_completions_9 n C x1 x3 = some out → ∀ (H : Heap) (locs : List Loc) (hP : va_P G.1 vwCl (MW G q C) H) (hD : va_D A (MW G q C)) (hS : va_S A s.heap H locs), ∀ (ls : Array Slot), lv_has ls 4 [(0, .ref (q 0)), (1, .long x1), (3, .int x3)] → W p l e rmX7_completions s m args below meth c H locs 0 0 (MQl G (MW G q) A s args below out) (F0 m 9 ls []) := by
  intro n
  induction n with
  | zero => intro _ _ _ h; cases h
  | succ n ih => exact fun a0 a1 a2 h _ _ hP hD hS ls hl => wX7_completions_9_b bx hA hK ih a0 a1 a2 h hP hD hS ls hl

set_option maxHeartbeats 4000000 in
set_option maxRecDepth 100000 in
theorem kX7_completions (l : Launch) (G : GT) (q : Nat → Nat) (C : St) (sz : Nat) (r : Int64 × St) (h : pX7_completions C = some r) : Met l yX7_completions wsX7_completions rmX7_completions (va_Pc [.ref (q 0)] (wrP G (MW G q C) sz)) (va_Ql (fun v u => (v, u) = r) (fun u t => va_P G.1 vwCl (MW G q u) t.heap) (va_A (MW G q C) sz)) 0 0 (va_A (MW G q C) sz) := by
  refine Met.ofW (cc := cX7_completions) (maxL := 4) (ret := (some .long)) (by decide) rfl ?_
  intro p e s m args below meth c s₁ B hml hv
  obtain ⟨rfl, hsz, hP, hK, hD0⟩ := hv
  have bx := bx_of B hml
  subst hsz
  have hD := hD0.self (sz := s.heap.size)
  generalize hAe : va_A (MW G q C) s.heap.size = A at hD ⊢
  have hA : ∀ q : Nat, s.heap.size ≤ q → A q := fun q h => by rw [← hAe]; exact Or.inr h
  have hS : va_S A s.heap s.heap [] := va_S.rf
  obtain ⟨hx, hb, hr, hts, hown, hml, hlocks⟩ := id bx
  have hl := lv_entry ([.ref (q 0)]) (n := 4) (Nat.le_of_ble_eq_true rfl)
  rw [lg_entry_eq]
  generalize (lg_sl ([.ref (q 0)]) ++ List.replicate (4 - (lg_sl ([.ref (q 0)])).length) Slot.unset).toArray = ls at hl ⊢
  have hl : lv_has ls 4 [(0, .ref (q 0))] := hl
  show W p l e rmX7_completions s m _ below meth c s.heap [] 0 0 (MQl G (MW G q) A s _ below r) (F0 m 0 ls [])
  unfold pX7_completions at h
  refine lv_aload_n hx hb dX7_completions_0 rfl (lv_at hl 0 rfl) ?_
  refine lv_iconst (v := 0) hx hb dX7_completions_1 (by decide) ?_
  refine va_put (D := G.1) (ci := 8) (v := .int 0) (ty := .int) (C := RX7) (T := TX7) (N := 24) hx hb hts in_wsX7_completions_X7 tyX7 tyX7_ok nmX7 hown hK.1 hP hD hS 0 rfl rfl 23 (by decide) (w_mem hts 1 rfl) (fun _ h9 => h9) rfl (by decide +kernel) rfl rfl (Nat.le_of_ble_eq_true rfl) dX7_completions_2 (fun H locs hP hD hS => ?_)
  have hP : va_P G.1 vwCl (MW G q (sS C 7 0)) H := hP
  have hD : va_D A (MW G q (sS C 7 0)) := hD
  obtain ⟨C_1, eC_1, h⟩ := ltv_ex h
  rw [← eC_1] at hP hD
  refine lv_lconst (v := 0) hx hb dX7_completions_5 (by decide) ?_
  refine lv_lstore_n (lv' := [(1, .long 0), (0, .ref (q 0))]) hx hb dX7_completions_6 rfl hl (by decide) rfl (fun ls hl => ?_)
  refine lv_iconst (v := 1) hx hb dX7_completions_7 (by decide) ?_
  refine lv_istore_n (lv' := [(3, .int 1), (1, .long 0), (0, .ref (q 0))]) hx hb dX7_completions_8 rfl hl (by decide) rfl (fun ls hl => ?_)
  exact wX7_completions_9 bx hA hK FU C_1 0 1 h _ _ hP hD hS _ (lv_sub hl [2, 1, 0] rfl)

def rmX7_completionsByAll : Room := { frames := 5, cells := 0, slots := 0, locals := 112 }

set_option maxHeartbeats 4000000 in
set_option maxRecDepth 100000 in
theorem kX7_completionsByAll (l : Launch) (G : GT) (q : Nat → Nat) (C : St) (sz : Nat) (r : Int64 × St) (h : pX7_completionsByAll C = some r) : Met l yX7_completionsByAll wsX7_completionsByAll rmX7_completionsByAll (va_Pc [.ref (q 0)] (wrP G (MW G q C) sz)) (va_Ql (fun v u => (v, u) = r) (fun u t => va_P G.1 vwCl (MW G q u) t.heap) (va_A (MW G q C) sz)) 0 0 (va_A (MW G q C) sz) := by
  refine Met.ofW (cc := cX7_completionsByAll) (maxL := 1) (ret := (some .long)) (by decide) rfl ?_
  intro p e s m args below meth c s₁ B hml hv
  obtain ⟨rfl, hsz, hP, hK, hD0⟩ := hv
  have bx := bx_of B hml
  subst hsz
  have hD := hD0.self (sz := s.heap.size)
  generalize hAe : va_A (MW G q C) s.heap.size = A at hD ⊢
  have hA : ∀ q : Nat, s.heap.size ≤ q → A q := fun q h => by rw [← hAe]; exact Or.inr h
  have hS : va_S A s.heap s.heap [] := va_S.rf
  obtain ⟨hx, hb, hr, hts, hown, hml, hlocks⟩ := id bx
  have hl := lv_entry ([.ref (q 0)]) (n := 1) (Nat.le_of_ble_eq_true rfl)
  rw [lg_entry_eq]
  generalize (lg_sl ([.ref (q 0)]) ++ List.replicate (1 - (lg_sl ([.ref (q 0)])).length) Slot.unset).toArray = ls at hl ⊢
  have hl : lv_has ls 1 [(0, .ref (q 0))] := hl
  show W p l e rmX7_completionsByAll s m _ below meth c s.heap [] 0 0 (MQl G (MW G q) A s _ below r) (F0 m 0 ls [])
  unfold pX7_completionsByAll at h
  refine lv_aload_n hx hb dX7_completionsByAll_0 rfl (lv_at hl 0 rfl) ?_
  obtain ⟨u_1, hu_1, h⟩ := bd_ex h
  refine wr_l (Wd := MW G q) (va_runV (As := []) (rest := []) ⟨hx, hb, hml, hown, hts⟩ (kX7_completions l G q C _ u_1 hu_1) (cwV 0 hts gX7_completionsByAll_X7_completions rfl rfl rfl (by decide +kernel) ⟨Nat.le_of_ble_eq_true rfl, Nat.le_of_ble_eq_true rfl⟩) (wrV hP hD hK 8 0 rfl rfl) rfl rfl hl.1 rfl (lv_room (Nat.le_of_ble_eq_true rfl)) dX7_completionsByAll_1 ⟨Nat.zero_le _, Nat.zero_le _⟩) hD hS hA (fun _ => rfl) (fun H locs hP hD hS => ?_)
  exact MQl.end hx hb hr hlocks hP hS dX7_completionsByAll_4 h

def rmX7_layer : Room := { frames := 0, cells := 0, slots := 0, locals := 0 }

theorem in_wsX7_layer_X7 : ∀ w ∈ u_ws RX7 TX7 24, w ∈ wsX7_layer := by decide +kernel

set_option maxHeartbeats 4000000 in
set_option maxRecDepth 100000 in
theorem kX7_layer (l : Launch) (G : GT) (q : Nat → Nat) (C : St) (sz : Nat) (x1 : Int32) (x2 : Int32) (x3 : Int32) (x4 : Int32) (r : Int32 × St) (h : pX7_layer C x1 x2 x3 x4 = some r) : Met l yX7_layer wsX7_layer rmX7_layer (va_Pc [.ref (q 0), .int x1, .int x2, .int x3, .int x4] (wrP G (MW G q C) sz)) (va_Qi (fun v u => (v, u) = r) (fun u t => va_P G.1 vwCl (MW G q u) t.heap) (va_A (MW G q C) sz)) 0 0 (va_A (MW G q C) sz) := by
  refine Met.ofW (cc := cX7_layer) (maxL := 5) (ret := (some .int)) (by decide) rfl ?_
  intro p e s m args below meth c s₁ B hml hv
  obtain ⟨rfl, hsz, hP, hK, hD0⟩ := hv
  have bx := bx_of B hml
  subst hsz
  have hD := hD0.self (sz := s.heap.size)
  generalize hAe : va_A (MW G q C) s.heap.size = A at hD ⊢
  have hA : ∀ q : Nat, s.heap.size ≤ q → A q := fun q h => by rw [← hAe]; exact Or.inr h
  have hS : va_S A s.heap s.heap [] := va_S.rf
  obtain ⟨hx, hb, hr, hts, hown, hml, hlocks⟩ := id bx
  have hl := lv_entry ([.ref (q 0), .int x1, .int x2, .int x3, .int x4]) (n := 5) (Nat.le_of_ble_eq_true rfl)
  rw [lg_entry_eq]
  generalize (lg_sl ([.ref (q 0), .int x1, .int x2, .int x3, .int x4]) ++ List.replicate (5 - (lg_sl ([.ref (q 0), .int x1, .int x2, .int x3, .int x4])).length) Slot.unset).toArray = ls at hl ⊢
  have hl : lv_has ls 5 [(0, .ref (q 0)), (1, .int x1), (2, .int x2), (3, .int x3), (4, .int x4)] := hl
  show W p l e rmX7_layer s m _ below meth c s.heap [] 0 0 (MQi G (MW G q) A s _ below r) (F0 m 0 ls [])
  unfold pX7_layer at h
  refine lv_aload_n hx hb dX7_layer_0 rfl (lv_at hl 0 rfl) ?_
  refine va_get (D := G.1) (ci := 8) (v := .ref (q 8)) (C := RX7) (T := TX7) (N := 24) hx hb hts in_wsX7_layer_X7 hown hK.1 hP 0 rfl rfl 7 (by decide) (w_mem hts 1 rfl) (fun _ h9 => h9) rfl dX7_layer_1 ?_
  refine lv_aload_n hx hb dX7_layer_4 rfl (lv_at hl 0 rfl) ?_
  refine va_get (D := G.1) (ci := 8) (v := .int (C.1 2)) (C := RX7) (T := TX7) (N := 24) hx hb hts in_wsX7_layer_X7 hown hK.1 hP 0 rfl rfl 18 (by decide) (w_mem hts 2 rfl) (fun _ h9 => h9) rfl dX7_layer_5 ?_
  refine lv_iload_n hx hb dX7_layer_8 rfl (lv_at hl 1 rfl) ?_
  obtain ⟨g9, h⟩ := gd_ex h
  refine va_cast (D := G.1) hx hb hK.1 hP hD hS 8 1 rfl rfl g9 dX7_layer_9 (fun H locs hP hD hS => ?_)
  have hP : va_P G.1 vwCl (MW G q (sA C 7 (C.1 2).toNatClampNeg (vp_nar .char x1))) H := hP
  have hD : va_D A (MW G q (sA C 7 (C.1 2).toNatClampNeg (vp_nar .char x1))) := hD
  obtain ⟨C_1, eC_1, h⟩ := ltv_ex h
  rw [← eC_1] at hP hD
  refine lv_aload_n hx hb dX7_layer_10 rfl (lv_at hl 0 rfl) ?_
  refine va_get (D := G.1) (ci := 8) (v := .ref (q 13)) (C := RX7) (T := TX7) (N := 24) hx hb hts in_wsX7_layer_X7 hown hK.1 hP 0 rfl rfl 12 (by decide) (w_mem hts 3 rfl) (fun _ h9 => h9) rfl dX7_layer_11 ?_
  refine lv_aload_n hx hb dX7_layer_14 rfl (lv_at hl 0 rfl) ?_
  refine va_get (D := G.1) (ci := 8) (v := .int (C_1.1 2)) (C := RX7) (T := TX7) (N := 24) hx hb hts in_wsX7_layer_X7 hown hK.1 hP 0 rfl rfl 18 (by decide) (w_mem hts 2 rfl) (fun _ h9 => h9) rfl dX7_layer_15 ?_
  refine lv_iload_n hx hb dX7_layer_18 rfl (lv_at hl 2 rfl) ?_
  obtain ⟨g19, h⟩ := gd_ex h
  refine va_iast (D := G.1) hx hb hK.1 hP hD hS 13 0 rfl rfl g19 dX7_layer_19 (fun H locs hP hD hS => ?_)
  have hP : va_P G.1 vwCl (MW G q (sA C_1 12 (C_1.1 2).toNatClampNeg x2)) H := hP
  have hD : va_D A (MW G q (sA C_1 12 (C_1.1 2).toNatClampNeg x2)) := hD
  obtain ⟨C_2, eC_2, h⟩ := ltv_ex h
  rw [← eC_2] at hP hD
  refine lv_aload_n hx hb dX7_layer_20 rfl (lv_at hl 0 rfl) ?_
  refine va_get (D := G.1) (ci := 8) (v := .ref (q 14)) (C := RX7) (T := TX7) (N := 24) hx hb hts in_wsX7_layer_X7 hown hK.1 hP 0 rfl rfl 13 (by decide) (w_mem hts 4 rfl) (fun _ h9 => h9) rfl dX7_layer_21 ?_
  refine lv_aload_n hx hb dX7_layer_24 rfl (lv_at hl 0 rfl) ?_
  refine va_get (D := G.1) (ci := 8) (v := .int (C_2.1 2)) (C := RX7) (T := TX7) (N := 24) hx hb hts in_wsX7_layer_X7 hown hK.1 hP 0 rfl rfl 18 (by decide) (w_mem hts 2 rfl) (fun _ h9 => h9) rfl dX7_layer_25 ?_
  refine lv_iload_n hx hb dX7_layer_28 rfl (lv_at hl 3 rfl) ?_
  obtain ⟨g29, h⟩ := gd_ex h
  refine va_iast (D := G.1) hx hb hK.1 hP hD hS 14 0 rfl rfl g29 dX7_layer_29 (fun H locs hP hD hS => ?_)
  have hP : va_P G.1 vwCl (MW G q (sA C_2 13 (C_2.1 2).toNatClampNeg x3)) H := hP
  have hD : va_D A (MW G q (sA C_2 13 (C_2.1 2).toNatClampNeg x3)) := hD
  obtain ⟨C_3, eC_3, h⟩ := ltv_ex h
  rw [← eC_3] at hP hD
  refine lv_aload_n hx hb dX7_layer_30 rfl (lv_at hl 0 rfl) ?_
  refine va_get (D := G.1) (ci := 8) (v := .ref (q 15)) (C := RX7) (T := TX7) (N := 24) hx hb hts in_wsX7_layer_X7 hown hK.1 hP 0 rfl rfl 14 (by decide) (w_mem hts 5 rfl) (fun _ h9 => h9) rfl dX7_layer_31 ?_
  refine lv_aload_n hx hb dX7_layer_34 rfl (lv_at hl 0 rfl) ?_
  refine va_get (D := G.1) (ci := 8) (v := .int (C_3.1 2)) (C := RX7) (T := TX7) (N := 24) hx hb hts in_wsX7_layer_X7 hown hK.1 hP 0 rfl rfl 18 (by decide) (w_mem hts 2 rfl) (fun _ h9 => h9) rfl dX7_layer_35 ?_
  refine lv_iload hx hb dX7_layer_38 (lv_at hl 4 rfl) ?_
  obtain ⟨g40, h⟩ := gd_ex h
  refine va_iast (D := G.1) hx hb hK.1 hP hD hS 15 0 rfl rfl g40 dX7_layer_40 (fun H locs hP hD hS => ?_)
  have hP : va_P G.1 vwCl (MW G q (sA C_3 14 (C_3.1 2).toNatClampNeg x4)) H := hP
  have hD : va_D A (MW G q (sA C_3 14 (C_3.1 2).toNatClampNeg x4)) := hD
  obtain ⟨C_4, eC_4, h⟩ := ltv_ex h
  rw [← eC_4] at hP hD
  refine lv_aload_n hx hb dX7_layer_41 rfl (lv_at hl 0 rfl) ?_
  refine lv_dup hx hb dX7_layer_42 rfl ?_
  refine va_get (D := G.1) (ci := 8) (v := .int (C_4.1 2)) (C := RX7) (T := TX7) (N := 24) hx hb hts in_wsX7_layer_X7 hown hK.1 hP 0 rfl rfl 18 (by decide) (w_mem hts 2 rfl) (fun _ h9 => h9) rfl dX7_layer_43 ?_
  refine lv_iconst (v := 1) hx hb dX7_layer_46 (by decide) ?_
  refine lv_iadd hx hb dX7_layer_47 ?_
  refine va_put (D := G.1) (ci := 8) (v := .int ((C_4.1 2) + 1)) (ty := .int) (C := RX7) (T := TX7) (N := 24) hx hb hts in_wsX7_layer_X7 tyX7 tyX7_ok nmX7 hown hK.1 hP hD hS 0 rfl rfl 18 (by decide) (w_mem hts 2 rfl) (fun _ h9 => h9) rfl (by decide +kernel) rfl rfl (Nat.le_of_ble_eq_true rfl) dX7_layer_48 (fun H locs hP hD hS => ?_)
  have hP : va_P G.1 vwCl (MW G q (sS C_4 2 ((C_4.1 2) + 1))) H := hP
  have hD : va_D A (MW G q (sS C_4 2 ((C_4.1 2) + 1))) := hD
  obtain ⟨C_5, eC_5, h⟩ := ltv_ex h
  rw [← eC_5] at hP hD
  refine lv_aload_n hx hb dX7_layer_51 rfl (lv_at hl 0 rfl) ?_
  refine va_get (D := G.1) (ci := 8) (v := .int (C_5.1 2)) (C := RX7) (T := TX7) (N := 24) hx hb hts in_wsX7_layer_X7 hown hK.1 hP 0 rfl rfl 18 (by decide) (w_mem hts 2 rfl) (fun _ h9 => h9) rfl dX7_layer_52 ?_
  refine lv_iconst (v := 1) hx hb dX7_layer_55 (by decide) ?_
  refine lv_iadd hx hb dX7_layer_56 ?_
  exact MQi.end hx hb hr hlocks hP hS dX7_layer_57 rfl h

def rmX7_addBundle : Room := { frames := 2, cells := 0, slots := 0, locals := 43 }

theorem in_wsX7_addBundle_X7 : ∀ w ∈ u_ws RX7 TX7 24, w ∈ wsX7_addBundle := by decide +kernel

set_option maxHeartbeats 4000000 in
set_option maxRecDepth 100000 in
theorem wX7_addBundle_68 {p : Program} {l : Launch} {e : Env} {s : State} {m : MethodId} {args : Array Value} {below : List Frame} {meth : Method} {c : Code} {G : GT} {q : Nat → Nat} {A : Nat → Prop} {out : Int32 × St} (bx : BX p RX7 wsX7_addBundle cX7_addBundle 4 (some .int) s m args meth c) (hA : ∀ q : Nat, s.heap.size ≤ q → A q) (hK : CK G s) (C : St) (x1 : Int32) (x2 : Int32) (x3 : Int32) (t1 : Int32) (h : pX7_addBundle_68 C x1 x2 x3 t1 = some out) {H : Heap} {locs : List Loc} (hP : va_P G.1 vwCl (MW G q C) H) (hD : va_D A (MW G q C)) (hS : va_S A s.heap H locs) (ls : Array Slot) (hl : lv_has ls 4 [(0, .ref (q 0)), (1, .int x1), (2, .int x2), (3, .int x3)]) : W p l e rmX7_addBundle s m args below meth c H locs 0 0 (MQi G (MW G q) A s args below out) (F0 m 68 ls [.int t1, .ref (q 0)]) := by
  obtain ⟨hx, hb, hr, hts, hown, hml, hlocks⟩ := id bx
  unfold pX7_addBundle_68 at h
  refine lv_iconst (v := 3) hx hb dX7_addBundle_68 (by decide) ?_
  obtain ⟨u_5, hu_5, h⟩ := bd_ex h
  refine wr_i (Wd := MW G q) (va_runV (As := [.int t1, .int 3]) (rest := []) ⟨hx, hb, hml, hown, hts⟩ (kX7_isThrown l G q C _ t1 3 u_5 hu_5) (cwV 2 hts gX7_addBundle_X7_isThrown rfl rfl rfl (by decide +kernel) ⟨Nat.le_of_ble_eq_true rfl, Nat.le_of_ble_eq_true rfl⟩) (wrV hP hD hK 8 0 rfl rfl) rfl rfl hl.1 rfl (lv_room (Nat.le_of_ble_eq_true rfl)) dX7_addBundle_69 ⟨Nat.zero_le _, Nat.zero_le _⟩) hD hS hA (fun _ => rfl) (fun H locs hP hD hS => ?_)
  refine lv_if_eq (tgt := 79) hx hb dX7_addBundle_72 (by decide) (fun c_72 => ?_) (fun c_72 => ?_)
  · have h := br_T h c_72
    refine lv_aload_n hx hb dX7_addBundle_79 rfl (lv_at hl 0 rfl) ?_
    refine lv_bipush (v := 98) hx hb dX7_addBundle_80 (by decide) ?_
    refine lv_iload_n hx hb dX7_addBundle_82 rfl (lv_at hl 1 rfl) ?_
    refine lv_iload_n hx hb dX7_addBundle_83 rfl (lv_at hl 2 rfl) ?_
    refine lv_iload_n hx hb dX7_addBundle_84 rfl (lv_at hl 3 rfl) ?_
    obtain ⟨u_6, hu_6, h⟩ := bd_ex h
    refine wr_i (Wd := MW G q) (va_runV (As := [.int 98, .int x1, .int x2, .int x3]) (rest := []) ⟨hx, hb, hml, hown, hts⟩ (kX7_layer l G q u_5.2 _ 98 x1 x2 x3 u_6 hu_6) (cwV 4 hts gX7_addBundle_X7_layer rfl rfl rfl (by decide +kernel) ⟨Nat.le_of_ble_eq_true rfl, Nat.le_of_ble_eq_true rfl⟩) (wrV hP hD hK 8 0 rfl rfl) rfl rfl hl.1 rfl (lv_room (Nat.le_of_ble_eq_true rfl)) dX7_addBundle_85 ⟨Nat.zero_le _, Nat.zero_le _⟩) hD hS hA (fun _ => rfl) (fun H locs hP hD hS => ?_)
    exact MQi.end hx hb hr hlocks hP hS dX7_addBundle_88 rfl h
  · have h := br_F h c_72
    refine lv_iconst (v := 0) hx hb dX7_addBundle_75 (by decide) ?_
    refine lv_goto (tgt := 88) hx hb dX7_addBundle_76 (by decide) ?_
    exact MQi.end hx hb hr hlocks hP hS dX7_addBundle_88 rfl h

set_option maxHeartbeats 4000000 in
set_option maxRecDepth 100000 in
theorem wX7_addBundle_46 {p : Program} {l : Launch} {e : Env} {s : State} {m : MethodId} {args : Array Value} {below : List Frame} {meth : Method} {c : Code} {G : GT} {q : Nat → Nat} {A : Nat → Prop} {out : Int32 × St} (bx : BX p RX7 wsX7_addBundle cX7_addBundle 4 (some .int) s m args meth c) (hA : ∀ q : Nat, s.heap.size ≤ q → A q) (hK : CK G s) (C : St) (x1 : Int32) (x2 : Int32) (x3 : Int32) (t1 : Int32) (h : pX7_addBundle_46 C x1 x2 x3 t1 = some out) {H : Heap} {locs : List Loc} (hP : va_P G.1 vwCl (MW G q C) H) (hD : va_D A (MW G q C)) (hS : va_S A s.heap H locs) (ls : Array Slot) (hl : lv_has ls 4 [(0, .ref (q 0)), (1, .int x1), (2, .int x2), (3, .int x3)]) : W p l e rmX7_addBundle s m args below meth c H locs 0 0 (MQi G (MW G q) A s args below out) (F0 m 46 ls [.int t1, .ref (q 0)]) := by
  obtain ⟨hx, hb, hr, hts, hown, hml, hlocks⟩ := id bx
  unfold pX7_addBundle_46 at h
  refine lv_iconst (v := 2) hx hb dX7_addBundle_46 (by decide) ?_
  obtain ⟨u_4, hu_4, h⟩ := bd_ex h
  refine wr_i (Wd := MW G q) (va_runV (As := [.int t1, .int 2]) (rest := []) ⟨hx, hb, hml, hown, hts⟩ (kX7_isThrown l G q C _ t1 2 u_4 hu_4) (cwV 2 hts gX7_addBundle_X7_isThrown rfl rfl rfl (by decide +kernel) ⟨Nat.le_of_ble_eq_true rfl, Nat.le_of_ble_eq_true rfl⟩) (wrV hP hD hK 8 0 rfl rfl) rfl rfl hl.1 rfl (lv_room (Nat.le_of_ble_eq_true rfl)) dX7_addBundle_47 ⟨Nat.zero_le _, Nat.zero_le _⟩) hD hS hA (fun _ => rfl) (fun H locs hP hD hS => ?_)
  refine lv_if_ne (tgt := 75) hx hb dX7_addBundle_50 (by decide) (fun c_50 => ?_) (fun c_50 => ?_)
  · have h := br_F h c_50
    refine lv_iconst (v := 0) hx hb dX7_addBundle_75 (by decide) ?_
    refine lv_goto (tgt := 88) hx hb dX7_addBundle_76 (by decide) ?_
    exact MQi.end hx hb hr hlocks hP hS dX7_addBundle_88 rfl h
  · have h := br_T h c_50
    refine lv_aload_n hx hb dX7_addBundle_53 rfl (lv_at hl 0 rfl) ?_
    refine lv_aload_n hx hb dX7_addBundle_54 rfl (lv_at hl 0 rfl) ?_
    refine va_get (D := G.1) (ci := 8) (v := .int (u_4.2.1 2)) (C := RX7) (T := TX7) (N := 24) hx hb hts in_wsX7_addBundle_X7 hown hK.1 hP 0 rfl rfl 18 (by decide) (w_mem hts 1 rfl) (fun _ h9 => h9) rfl dX7_addBundle_55 ?_
    refine lv_bipush (v := 6) hx hb dX7_addBundle_58 (by decide) ?_
    refine lv_icmp_ne (tgt := 67) hx hb dX7_addBundle_60 (by decide) (fun c_60 => ?_) (fun c_60 => ?_)
    · have h := br_F h c_60
      refine lv_iconst (v := 0) hx hb dX7_addBundle_67 (by decide) ?_
      exact wX7_addBundle_68 bx hA hK u_4.2 x1 x2 x3 0 h hP hD hS _ (lv_sub hl [0, 1, 2, 3] rfl)
    · have h := br_T h c_60
      refine lv_iconst (v := 1) hx hb dX7_addBundle_63 (by decide) ?_
      refine lv_goto (tgt := 68) hx hb dX7_addBundle_64 (by decide) ?_
      exact wX7_addBundle_68 bx hA hK u_4.2 x1 x2 x3 1 h hP hD hS _ (lv_sub hl [0, 1, 2, 3] rfl)

set_option maxHeartbeats 4000000 in
set_option maxRecDepth 100000 in
theorem wX7_addBundle_22 {p : Program} {l : Launch} {e : Env} {s : State} {m : MethodId} {args : Array Value} {below : List Frame} {meth : Method} {c : Code} {G : GT} {q : Nat → Nat} {A : Nat → Prop} {out : Int32 × St} (bx : BX p RX7 wsX7_addBundle cX7_addBundle 4 (some .int) s m args meth c) (hA : ∀ q : Nat, s.heap.size ≤ q → A q) (hK : CK G s) (C : St) (x1 : Int32) (x2 : Int32) (x3 : Int32) (t1 : Int32) (h : pX7_addBundle_22 C x1 x2 x3 t1 = some out) {H : Heap} {locs : List Loc} (hP : va_P G.1 vwCl (MW G q C) H) (hD : va_D A (MW G q C)) (hS : va_S A s.heap H locs) (ls : Array Slot) (hl : lv_has ls 4 [(0, .ref (q 0)), (1, .int x1), (2, .int x2), (3, .int x3)]) : W p l e rmX7_addBundle s m args below meth c H locs 0 0 (MQi G (MW G q) A s args below out) (F0 m 22 ls [.int t1, .ref (q 0)]) := by
  obtain ⟨hx, hb, hr, hts, hown, hml, hlocks⟩ := id bx
  unfold pX7_addBundle_22 at h
  refine lv_iconst (v := 1) hx hb dX7_addBundle_22 (by decide) ?_
  obtain ⟨u_2, hu_2, h⟩ := bd_ex h
  refine wr_i (Wd := MW G q) (va_runV (As := [.int t1, .int 1]) (rest := []) ⟨hx, hb, hml, hown, hts⟩ (kX7_isThrown l G q C _ t1 1 u_2 hu_2) (cwV 2 hts gX7_addBundle_X7_isThrown rfl rfl rfl (by decide +kernel) ⟨Nat.le_of_ble_eq_true rfl, Nat.le_of_ble_eq_true rfl⟩) (wrV hP hD hK 8 0 rfl rfl) rfl rfl hl.1 rfl (lv_room (Nat.le_of_ble_eq_true rfl)) dX7_addBundle_23 ⟨Nat.zero_le _, Nat.zero_le _⟩) hD hS hA (fun _ => rfl) (fun H locs hP hD hS => ?_)
  refine lv_if_ne (tgt := 75) hx hb dX7_addBundle_26 (by decide) (fun c_26 => ?_) (fun c_26 => ?_)
  · have h := br_F h c_26
    refine lv_iconst (v := 0) hx hb dX7_addBundle_75 (by decide) ?_
    refine lv_goto (tgt := 88) hx hb dX7_addBundle_76 (by decide) ?_
    exact MQi.end hx hb hr hlocks hP hS dX7_addBundle_88 rfl h
  · have h := br_T h c_26
    refine lv_aload_n hx hb dX7_addBundle_29 rfl (lv_at hl 0 rfl) ?_
    refine lv_iload_n hx hb dX7_addBundle_30 rfl (lv_at hl 3 rfl) ?_
    refine lv_iconst (v := 0) hx hb dX7_addBundle_31 (by decide) ?_
    refine lv_sipush (v := 999) hx hb dX7_addBundle_32 (by decide) ?_
    obtain ⟨r_3, hr_3, h⟩ := bd_ex h
    refine ro_i (va_runS (As := [.int x3, .int 0, .int 999]) (rest := [.ref (q 0)]) ⟨hx, hb, hml, hown, hts⟩ (kX7_isIn l G q u_2.2 x3 0 999 r_3 hr_3) (va_cwS 3 hts gX7_addBundle_X7_isIn rfl rfl rfl (by decide +kernel) ⟨Nat.le_of_ble_eq_true rfl, Nat.le_of_ble_eq_true rfl⟩) (roS hP hK) rfl rfl hl.1 rfl (lv_room (Nat.le_of_ble_eq_true rfl)) dX7_addBundle_35 ⟨Nat.zero_le _, Nat.zero_le _⟩) ?_
    refine lv_if_ne (tgt := 45) hx hb dX7_addBundle_38 (by decide) (fun c_38 => ?_) (fun c_38 => ?_)
    · have h := br_F h c_38
      refine lv_iconst (v := 0) hx hb dX7_addBundle_45 (by decide) ?_
      exact wX7_addBundle_46 bx hA hK u_2.2 x1 x2 x3 0 h hP hD hS _ (lv_sub hl [0, 1, 2, 3] rfl)
    · have h := br_T h c_38
      refine lv_iconst (v := 1) hx hb dX7_addBundle_41 (by decide) ?_
      refine lv_goto (tgt := 46) hx hb dX7_addBundle_42 (by decide) ?_
      exact wX7_addBundle_46 bx hA hK u_2.2 x1 x2 x3 1 h hP hD hS _ (lv_sub hl [0, 1, 2, 3] rfl)

set_option maxHeartbeats 4000000 in
set_option maxRecDepth 100000 in
theorem wX7_addBundle_17 {p : Program} {l : Launch} {e : Env} {s : State} {m : MethodId} {args : Array Value} {below : List Frame} {meth : Method} {c : Code} {G : GT} {q : Nat → Nat} {A : Nat → Prop} {out : Int32 × St} (bx : BX p RX7 wsX7_addBundle cX7_addBundle 4 (some .int) s m args meth c) (hA : ∀ q : Nat, s.heap.size ≤ q → A q) (hK : CK G s) (C : St) (x1 : Int32) (x2 : Int32) (x3 : Int32) (h : pX7_addBundle_17 C x1 x2 x3 = some out) {H : Heap} {locs : List Loc} (hP : va_P G.1 vwCl (MW G q C) H) (hD : va_D A (MW G q C)) (hS : va_S A s.heap H locs) (ls : Array Slot) (hl : lv_has ls 4 [(0, .ref (q 0)), (1, .int x1), (2, .int x2), (3, .int x3)]) : W p l e rmX7_addBundle s m args below meth c H locs 0 0 (MQi G (MW G q) A s args below out) (F0 m 17 ls [.ref (q 0)]) := by
  obtain ⟨hx, hb, hr, hts, hown, hml, hlocks⟩ := id bx
  unfold pX7_addBundle_17 at h
  refine lv_iconst (v := 1) hx hb dX7_addBundle_17 (by decide) ?_
  refine lv_goto (tgt := 22) hx hb dX7_addBundle_18 (by decide) ?_
  exact wX7_addBundle_22 bx hA hK C x1 x2 x3 1 h hP hD hS _ (lv_sub hl [0, 1, 2, 3] rfl)

set_option maxHeartbeats 4000000 in
set_option maxRecDepth 100000 in
theorem kX7_addBundle (l : Launch) (G : GT) (q : Nat → Nat) (C : St) (sz : Nat) (x1 : Int32) (x2 : Int32) (x3 : Int32) (r : Int32 × St) (h : pX7_addBundle C x1 x2 x3 = some r) : Met l yX7_addBundle wsX7_addBundle rmX7_addBundle (va_Pc [.ref (q 0), .int x1, .int x2, .int x3] (wrP G (MW G q C) sz)) (va_Qi (fun v u => (v, u) = r) (fun u t => va_P G.1 vwCl (MW G q u) t.heap) (va_A (MW G q C) sz)) 0 0 (va_A (MW G q C) sz) := by
  refine Met.ofW (cc := cX7_addBundle) (maxL := 4) (ret := (some .int)) (by decide) rfl ?_
  intro p e s m args below meth c s₁ B hml hv
  obtain ⟨rfl, hsz, hP, hK, hD0⟩ := hv
  have bx := bx_of B hml
  subst hsz
  have hD := hD0.self (sz := s.heap.size)
  generalize hAe : va_A (MW G q C) s.heap.size = A at hD ⊢
  have hA : ∀ q : Nat, s.heap.size ≤ q → A q := fun q h => by rw [← hAe]; exact Or.inr h
  have hS : va_S A s.heap s.heap [] := va_S.rf
  obtain ⟨hx, hb, hr, hts, hown, hml, hlocks⟩ := id bx
  have hl := lv_entry ([.ref (q 0), .int x1, .int x2, .int x3]) (n := 4) (Nat.le_of_ble_eq_true rfl)
  rw [lg_entry_eq]
  generalize (lg_sl ([.ref (q 0), .int x1, .int x2, .int x3]) ++ List.replicate (4 - (lg_sl ([.ref (q 0), .int x1, .int x2, .int x3])).length) Slot.unset).toArray = ls at hl ⊢
  have hl : lv_has ls 4 [(0, .ref (q 0)), (1, .int x1), (2, .int x2), (3, .int x3)] := hl
  show W p l e rmX7_addBundle s m _ below meth c s.heap [] 0 0 (MQi G (MW G q) A s _ below r) (F0 m 0 ls [])
  unfold pX7_addBundle at h
  refine lv_aload_n hx hb dX7_addBundle_0 rfl (lv_at hl 0 rfl) ?_
  refine lv_aload_n hx hb dX7_addBundle_1 rfl (lv_at hl 0 rfl) ?_
  refine lv_iload_n hx hb dX7_addBundle_2 rfl (lv_at hl 1 rfl) ?_
  obtain ⟨r_1, hr_1, h⟩ := bd_ex h
  refine ro_i (va_runV (As := [.int x1]) (rest := [.ref (q 0)]) ⟨hx, hb, hml, hown, hts⟩ (kX7_isNone l G q C x1 r_1 hr_1) (cwV 1 hts gX7_addBundle_X7_isNone rfl rfl rfl (by decide +kernel) ⟨Nat.le_of_ble_eq_true rfl, Nat.le_of_ble_eq_true rfl⟩) (roV hP hK 8 0 rfl rfl) rfl rfl hl.1 rfl (lv_room (Nat.le_of_ble_eq_true rfl)) dX7_addBundle_3 ⟨Nat.zero_le _, Nat.zero_le _⟩) ?_
  refine lv_if_ne (tgt := 17) hx hb dX7_addBundle_6 (by decide) (fun c_6 => ?_) (fun c_6 => ?_)
  · have h := br_F h c_6
    exact wX7_addBundle_17 bx hA hK C x1 x2 x3 h hP hD hS _ (lv_sub hl [0, 1, 2, 3] rfl)
  · have h := br_T h c_6
    refine lv_aload_n hx hb dX7_addBundle_9 rfl (lv_at hl 0 rfl) ?_
    refine lv_iload_n hx hb dX7_addBundle_10 rfl (lv_at hl 2 rfl) ?_
    obtain ⟨r_7, hr_7, h⟩ := bd_ex h
    refine ro_i (va_runV (As := [.int x2]) (rest := [.ref (q 0)]) ⟨hx, hb, hml, hown, hts⟩ (kX7_isNone l G q C x2 r_7 hr_7) (cwV 1 hts gX7_addBundle_X7_isNone rfl rfl rfl (by decide +kernel) ⟨Nat.le_of_ble_eq_true rfl, Nat.le_of_ble_eq_true rfl⟩) (roV hP hK 8 0 rfl rfl) rfl rfl hl.1 rfl (lv_room (Nat.le_of_ble_eq_true rfl)) dX7_addBundle_11 ⟨Nat.zero_le _, Nat.zero_le _⟩) ?_
    refine lv_if_eq (tgt := 21) hx hb dX7_addBundle_14 (by decide) (fun c_14 => ?_) (fun c_14 => ?_)
    · have h := br_T h c_14
      refine lv_iconst (v := 0) hx hb dX7_addBundle_21 (by decide) ?_
      exact wX7_addBundle_22 bx hA hK C x1 x2 x3 0 h hP hD hS _ (lv_sub hl [0, 1, 2, 3] rfl)
    · have h := br_F h c_14
      exact wX7_addBundle_17 bx hA hK C x1 x2 x3 h hP hD hS _ (lv_sub hl [0, 1, 2, 3] rfl)

def rmX7_addPercent : Room := { frames := 1, cells := 0, slots := 0, locals := 24 }

theorem in_wsX7_addPercent_X7 : ∀ w ∈ u_ws RX7 TX7 24, w ∈ wsX7_addPercent := by decide +kernel

set_option maxHeartbeats 4000000 in
set_option maxRecDepth 100000 in
theorem wX7_addPercent_38 {p : Program} {l : Launch} {e : Env} {s : State} {m : MethodId} {args : Array Value} {below : List Frame} {meth : Method} {c : Code} {G : GT} {q : Nat → Nat} {A : Nat → Prop} {out : Int32 × St} (bx : BX p RX7 wsX7_addPercent cX7_addPercent 2 (some .int) s m args meth c) (hA : ∀ q : Nat, s.heap.size ≤ q → A q) (hK : CK G s) (C : St) (x1 : Int32) (t1 : Int32) (h : pX7_addPercent_38 C x1 t1 = some out) {H : Heap} {locs : List Loc} (hP : va_P G.1 vwCl (MW G q C) H) (hD : va_D A (MW G q C)) (hS : va_S A s.heap H locs) (ls : Array Slot) (hl : lv_has ls 2 [(0, .ref (q 0)), (1, .int x1)]) : W p l e rmX7_addPercent s m args below meth c H locs 0 0 (MQi G (MW G q) A s args below out) (F0 m 38 ls [.int t1, .ref (q 0)]) := by
  obtain ⟨hx, hb, hr, hts, hown, hml, hlocks⟩ := id bx
  unfold pX7_addPercent_38 at h
  refine lv_iconst (v := 2) hx hb dX7_addPercent_38 (by decide) ?_
  obtain ⟨u_3, hu_3, h⟩ := bd_ex h
  refine wr_i (Wd := MW G q) (va_runV (As := [.int t1, .int 2]) (rest := []) ⟨hx, hb, hml, hown, hts⟩ (kX7_isThrown l G q C _ t1 2 u_3 hu_3) (cwV 2 hts gX7_addPercent_X7_isThrown rfl rfl rfl (by decide +kernel) ⟨Nat.le_of_ble_eq_true rfl, Nat.le_of_ble_eq_true rfl⟩) (wrV hP hD hK 8 0 rfl rfl) rfl rfl hl.1 rfl (lv_room (Nat.le_of_ble_eq_true rfl)) dX7_addPercent_39 ⟨Nat.zero_le _, Nat.zero_le _⟩) hD hS hA (fun _ => rfl) (fun H locs hP hD hS => ?_)
  refine lv_if_eq (tgt := 49) hx hb dX7_addPercent_42 (by decide) (fun c_42 => ?_) (fun c_42 => ?_)
  · have h := br_T h c_42
    refine lv_aload_n hx hb dX7_addPercent_49 rfl (lv_at hl 0 rfl) ?_
    refine lv_bipush (v := 112) hx hb dX7_addPercent_50 (by decide) ?_
    refine lv_iconst (v := 0) hx hb dX7_addPercent_52 (by decide) ?_
    refine lv_iconst (v := 0) hx hb dX7_addPercent_53 (by decide) ?_
    refine lv_iload_n hx hb dX7_addPercent_54 rfl (lv_at hl 1 rfl) ?_
    obtain ⟨u_4, hu_4, h⟩ := bd_ex h
    refine wr_i (Wd := MW G q) (va_runV (As := [.int 112, .int 0, .int 0, .int x1]) (rest := []) ⟨hx, hb, hml, hown, hts⟩ (kX7_layer l G q u_3.2 _ 112 0 0 x1 u_4 hu_4) (cwV 4 hts gX7_addPercent_X7_layer rfl rfl rfl (by decide +kernel) ⟨Nat.le_of_ble_eq_true rfl, Nat.le_of_ble_eq_true rfl⟩) (wrV hP hD hK 8 0 rfl rfl) rfl rfl hl.1 rfl (lv_room (Nat.le_of_ble_eq_true rfl)) dX7_addPercent_55 ⟨Nat.zero_le _, Nat.zero_le _⟩) hD hS hA (fun _ => rfl) (fun H locs hP hD hS => ?_)
    exact MQi.end hx hb hr hlocks hP hS dX7_addPercent_58 rfl h
  · have h := br_F h c_42
    refine lv_iconst (v := 0) hx hb dX7_addPercent_45 (by decide) ?_
    refine lv_goto (tgt := 58) hx hb dX7_addPercent_46 (by decide) ?_
    exact MQi.end hx hb hr hlocks hP hS dX7_addPercent_58 rfl h

set_option maxHeartbeats 4000000 in
set_option maxRecDepth 100000 in
theorem wX7_addPercent_16 {p : Program} {l : Launch} {e : Env} {s : State} {m : MethodId} {args : Array Value} {below : List Frame} {meth : Method} {c : Code} {G : GT} {q : Nat → Nat} {A : Nat → Prop} {out : Int32 × St} (bx : BX p RX7 wsX7_addPercent cX7_addPercent 2 (some .int) s m args meth c) (hA : ∀ q : Nat, s.heap.size ≤ q → A q) (hK : CK G s) (C : St) (x1 : Int32) (t1 : Int32) (h : pX7_addPercent_16 C x1 t1 = some out) {H : Heap} {locs : List Loc} (hP : va_P G.1 vwCl (MW G q C) H) (hD : va_D A (MW G q C)) (hS : va_S A s.heap H locs) (ls : Array Slot) (hl : lv_has ls 2 [(0, .ref (q 0)), (1, .int x1)]) : W p l e rmX7_addPercent s m args below meth c H locs 0 0 (MQi G (MW G q) A s args below out) (F0 m 16 ls [.int t1, .ref (q 0)]) := by
  obtain ⟨hx, hb, hr, hts, hown, hml, hlocks⟩ := id bx
  unfold pX7_addPercent_16 at h
  refine lv_iconst (v := 1) hx hb dX7_addPercent_16 (by decide) ?_
  obtain ⟨u_2, hu_2, h⟩ := bd_ex h
  refine wr_i (Wd := MW G q) (va_runV (As := [.int t1, .int 1]) (rest := []) ⟨hx, hb, hml, hown, hts⟩ (kX7_isThrown l G q C _ t1 1 u_2 hu_2) (cwV 2 hts gX7_addPercent_X7_isThrown rfl rfl rfl (by decide +kernel) ⟨Nat.le_of_ble_eq_true rfl, Nat.le_of_ble_eq_true rfl⟩) (wrV hP hD hK 8 0 rfl rfl) rfl rfl hl.1 rfl (lv_room (Nat.le_of_ble_eq_true rfl)) dX7_addPercent_17 ⟨Nat.zero_le _, Nat.zero_le _⟩) hD hS hA (fun _ => rfl) (fun H locs hP hD hS => ?_)
  refine lv_if_ne (tgt := 45) hx hb dX7_addPercent_20 (by decide) (fun c_20 => ?_) (fun c_20 => ?_)
  · have h := br_F h c_20
    refine lv_iconst (v := 0) hx hb dX7_addPercent_45 (by decide) ?_
    refine lv_goto (tgt := 58) hx hb dX7_addPercent_46 (by decide) ?_
    exact MQi.end hx hb hr hlocks hP hS dX7_addPercent_58 rfl h
  · have h := br_T h c_20
    refine lv_aload_n hx hb dX7_addPercent_23 rfl (lv_at hl 0 rfl) ?_
    refine lv_aload_n hx hb dX7_addPercent_24 rfl (lv_at hl 0 rfl) ?_
    refine va_get (D := G.1) (ci := 8) (v := .int (u_2.2.1 2)) (C := RX7) (T := TX7) (N := 24) hx hb hts in_wsX7_addPercent_X7 hown hK.1 hP 0 rfl rfl 18 (by decide) (w_mem hts 1 rfl) (fun _ h9 => h9) rfl dX7_addPercent_25 ?_
    refine lv_bipush (v := 6) hx hb dX7_addPercent_28 (by decide) ?_
    refine lv_icmp_ne (tgt := 37) hx hb dX7_addPercent_30 (by decide) (fun c_30 => ?_) (fun c_30 => ?_)
    · have h := br_F h c_30
      refine lv_iconst (v := 0) hx hb dX7_addPercent_37 (by decide) ?_
      exact wX7_addPercent_38 bx hA hK u_2.2 x1 0 h hP hD hS _ (lv_sub hl [0, 1] rfl)
    · have h := br_T h c_30
      refine lv_iconst (v := 1) hx hb dX7_addPercent_33 (by decide) ?_
      refine lv_goto (tgt := 38) hx hb dX7_addPercent_34 (by decide) ?_
      exact wX7_addPercent_38 bx hA hK u_2.2 x1 1 h hP hD hS _ (lv_sub hl [0, 1] rfl)

set_option maxHeartbeats 4000000 in
set_option maxRecDepth 100000 in
theorem kX7_addPercent (l : Launch) (G : GT) (q : Nat → Nat) (C : St) (sz : Nat) (x1 : Int32) (r : Int32 × St) (h : pX7_addPercent C x1 = some r) : Met l yX7_addPercent wsX7_addPercent rmX7_addPercent (va_Pc [.ref (q 0), .int x1] (wrP G (MW G q C) sz)) (va_Qi (fun v u => (v, u) = r) (fun u t => va_P G.1 vwCl (MW G q u) t.heap) (va_A (MW G q C) sz)) 0 0 (va_A (MW G q C) sz) := by
  refine Met.ofW (cc := cX7_addPercent) (maxL := 2) (ret := (some .int)) (by decide) rfl ?_
  intro p e s m args below meth c s₁ B hml hv
  obtain ⟨rfl, hsz, hP, hK, hD0⟩ := hv
  have bx := bx_of B hml
  subst hsz
  have hD := hD0.self (sz := s.heap.size)
  generalize hAe : va_A (MW G q C) s.heap.size = A at hD ⊢
  have hA : ∀ q : Nat, s.heap.size ≤ q → A q := fun q h => by rw [← hAe]; exact Or.inr h
  have hS : va_S A s.heap s.heap [] := va_S.rf
  obtain ⟨hx, hb, hr, hts, hown, hml, hlocks⟩ := id bx
  have hl := lv_entry ([.ref (q 0), .int x1]) (n := 2) (Nat.le_of_ble_eq_true rfl)
  rw [lg_entry_eq]
  generalize (lg_sl ([.ref (q 0), .int x1]) ++ List.replicate (2 - (lg_sl ([.ref (q 0), .int x1])).length) Slot.unset).toArray = ls at hl ⊢
  have hl : lv_has ls 2 [(0, .ref (q 0)), (1, .int x1)] := hl
  show W p l e rmX7_addPercent s m _ below meth c s.heap [] 0 0 (MQi G (MW G q) A s _ below r) (F0 m 0 ls [])
  unfold pX7_addPercent at h
  refine lv_aload_n hx hb dX7_addPercent_0 rfl (lv_at hl 0 rfl) ?_
  refine lv_iload_n hx hb dX7_addPercent_1 rfl (lv_at hl 1 rfl) ?_
  refine lv_iconst (v := 0) hx hb dX7_addPercent_2 (by decide) ?_
  refine lv_bipush (v := 100) hx hb dX7_addPercent_3 (by decide) ?_
  obtain ⟨r_1, hr_1, h⟩ := bd_ex h
  refine ro_i (va_runS (As := [.int x1, .int 0, .int 100]) (rest := [.ref (q 0)]) ⟨hx, hb, hml, hown, hts⟩ (kX7_isIn l G q C x1 0 100 r_1 hr_1) (va_cwS 3 hts gX7_addPercent_X7_isIn rfl rfl rfl (by decide +kernel) ⟨Nat.le_of_ble_eq_true rfl, Nat.le_of_ble_eq_true rfl⟩) (roS hP hK) rfl rfl hl.1 rfl (lv_room (Nat.le_of_ble_eq_true rfl)) dX7_addPercent_5 ⟨Nat.zero_le _, Nat.zero_le _⟩) ?_
  refine lv_if_ne (tgt := 15) hx hb dX7_addPercent_8 (by decide) (fun c_8 => ?_) (fun c_8 => ?_)
  · have h := br_F h c_8
    refine lv_iconst (v := 0) hx hb dX7_addPercent_15 (by decide) ?_
    exact wX7_addPercent_16 bx hA hK C x1 0 h hP hD hS _ (lv_sub hl [0, 1] rfl)
  · have h := br_T h c_8
    refine lv_iconst (v := 1) hx hb dX7_addPercent_11 (by decide) ?_
    refine lv_goto (tgt := 16) hx hb dX7_addPercent_12 (by decide) ?_
    exact wX7_addPercent_16 bx hA hK C x1 1 h hP hD hS _ (lv_sub hl [0, 1] rfl)

def rmX7_addSurcharge : Room := { frames := 1, cells := 0, slots := 0, locals := 24 }

theorem in_wsX7_addSurcharge_X7 : ∀ w ∈ u_ws RX7 TX7 24, w ∈ wsX7_addSurcharge := by decide +kernel

set_option maxHeartbeats 4000000 in
set_option maxRecDepth 100000 in
theorem wX7_addSurcharge_49 {p : Program} {l : Launch} {e : Env} {s : State} {m : MethodId} {args : Array Value} {below : List Frame} {meth : Method} {c : Code} {G : GT} {q : Nat → Nat} {A : Nat → Prop} {out : Int32 × St} (bx : BX p RX7 wsX7_addSurcharge cX7_addSurcharge 3 (some .int) s m args meth c) (hA : ∀ q : Nat, s.heap.size ≤ q → A q) (hK : CK G s) (C : St) (x1 : Int32) (x2 : Int32) (t1 : Int32) (h : pX7_addSurcharge_49 C x1 x2 t1 = some out) {H : Heap} {locs : List Loc} (hP : va_P G.1 vwCl (MW G q C) H) (hD : va_D A (MW G q C)) (hS : va_S A s.heap H locs) (ls : Array Slot) (hl : lv_has ls 3 [(0, .ref (q 0)), (1, .int x1), (2, .int x2)]) : W p l e rmX7_addSurcharge s m args below meth c H locs 0 0 (MQi G (MW G q) A s args below out) (F0 m 49 ls [.int t1, .ref (q 0)]) := by
  obtain ⟨hx, hb, hr, hts, hown, hml, hlocks⟩ := id bx
  unfold pX7_addSurcharge_49 at h
  refine lv_iconst (v := 2) hx hb dX7_addSurcharge_49 (by decide) ?_
  obtain ⟨u_3, hu_3, h⟩ := bd_ex h
  refine wr_i (Wd := MW G q) (va_runV (As := [.int t1, .int 2]) (rest := []) ⟨hx, hb, hml, hown, hts⟩ (kX7_isThrown l G q C _ t1 2 u_3 hu_3) (cwV 2 hts gX7_addSurcharge_X7_isThrown rfl rfl rfl (by decide +kernel) ⟨Nat.le_of_ble_eq_true rfl, Nat.le_of_ble_eq_true rfl⟩) (wrV hP hD hK 8 0 rfl rfl) rfl rfl hl.1 rfl (lv_room (Nat.le_of_ble_eq_true rfl)) dX7_addSurcharge_50 ⟨Nat.zero_le _, Nat.zero_le _⟩) hD hS hA (fun _ => rfl) (fun H locs hP hD hS => ?_)
  refine lv_if_eq (tgt := 60) hx hb dX7_addSurcharge_53 (by decide) (fun c_53 => ?_) (fun c_53 => ?_)
  · have h := br_T h c_53
    refine lv_aload_n hx hb dX7_addSurcharge_60 rfl (lv_at hl 0 rfl) ?_
    refine lv_bipush (v := 115) hx hb dX7_addSurcharge_61 (by decide) ?_
    refine lv_iload_n hx hb dX7_addSurcharge_63 rfl (lv_at hl 1 rfl) ?_
    refine lv_iconst (v := 0) hx hb dX7_addSurcharge_64 (by decide) ?_
    refine lv_iload_n hx hb dX7_addSurcharge_65 rfl (lv_at hl 2 rfl) ?_
    obtain ⟨u_4, hu_4, h⟩ := bd_ex h
    refine wr_i (Wd := MW G q) (va_runV (As := [.int 115, .int x1, .int 0, .int x2]) (rest := []) ⟨hx, hb, hml, hown, hts⟩ (kX7_layer l G q u_3.2 _ 115 x1 0 x2 u_4 hu_4) (cwV 4 hts gX7_addSurcharge_X7_layer rfl rfl rfl (by decide +kernel) ⟨Nat.le_of_ble_eq_true rfl, Nat.le_of_ble_eq_true rfl⟩) (wrV hP hD hK 8 0 rfl rfl) rfl rfl hl.1 rfl (lv_room (Nat.le_of_ble_eq_true rfl)) dX7_addSurcharge_66 ⟨Nat.zero_le _, Nat.zero_le _⟩) hD hS hA (fun _ => rfl) (fun H locs hP hD hS => ?_)
    exact MQi.end hx hb hr hlocks hP hS dX7_addSurcharge_69 rfl h
  · have h := br_F h c_53
    refine lv_iconst (v := 0) hx hb dX7_addSurcharge_56 (by decide) ?_
    refine lv_goto (tgt := 69) hx hb dX7_addSurcharge_57 (by decide) ?_
    exact MQi.end hx hb hr hlocks hP hS dX7_addSurcharge_69 rfl h

set_option maxHeartbeats 4000000 in
set_option maxRecDepth 100000 in
theorem wX7_addSurcharge_27 {p : Program} {l : Launch} {e : Env} {s : State} {m : MethodId} {args : Array Value} {below : List Frame} {meth : Method} {c : Code} {G : GT} {q : Nat → Nat} {A : Nat → Prop} {out : Int32 × St} (bx : BX p RX7 wsX7_addSurcharge cX7_addSurcharge 3 (some .int) s m args meth c) (hA : ∀ q : Nat, s.heap.size ≤ q → A q) (hK : CK G s) (C : St) (x1 : Int32) (x2 : Int32) (t1 : Int32) (h : pX7_addSurcharge_27 C x1 x2 t1 = some out) {H : Heap} {locs : List Loc} (hP : va_P G.1 vwCl (MW G q C) H) (hD : va_D A (MW G q C)) (hS : va_S A s.heap H locs) (ls : Array Slot) (hl : lv_has ls 3 [(0, .ref (q 0)), (1, .int x1), (2, .int x2)]) : W p l e rmX7_addSurcharge s m args below meth c H locs 0 0 (MQi G (MW G q) A s args below out) (F0 m 27 ls [.int t1, .ref (q 0)]) := by
  obtain ⟨hx, hb, hr, hts, hown, hml, hlocks⟩ := id bx
  unfold pX7_addSurcharge_27 at h
  refine lv_iconst (v := 1) hx hb dX7_addSurcharge_27 (by decide) ?_
  obtain ⟨u_2, hu_2, h⟩ := bd_ex h
  refine wr_i (Wd := MW G q) (va_runV (As := [.int t1, .int 1]) (rest := []) ⟨hx, hb, hml, hown, hts⟩ (kX7_isThrown l G q C _ t1 1 u_2 hu_2) (cwV 2 hts gX7_addSurcharge_X7_isThrown rfl rfl rfl (by decide +kernel) ⟨Nat.le_of_ble_eq_true rfl, Nat.le_of_ble_eq_true rfl⟩) (wrV hP hD hK 8 0 rfl rfl) rfl rfl hl.1 rfl (lv_room (Nat.le_of_ble_eq_true rfl)) dX7_addSurcharge_28 ⟨Nat.zero_le _, Nat.zero_le _⟩) hD hS hA (fun _ => rfl) (fun H locs hP hD hS => ?_)
  refine lv_if_ne (tgt := 56) hx hb dX7_addSurcharge_31 (by decide) (fun c_31 => ?_) (fun c_31 => ?_)
  · have h := br_F h c_31
    refine lv_iconst (v := 0) hx hb dX7_addSurcharge_56 (by decide) ?_
    refine lv_goto (tgt := 69) hx hb dX7_addSurcharge_57 (by decide) ?_
    exact MQi.end hx hb hr hlocks hP hS dX7_addSurcharge_69 rfl h
  · have h := br_T h c_31
    refine lv_aload_n hx hb dX7_addSurcharge_34 rfl (lv_at hl 0 rfl) ?_
    refine lv_aload_n hx hb dX7_addSurcharge_35 rfl (lv_at hl 0 rfl) ?_
    refine va_get (D := G.1) (ci := 8) (v := .int (u_2.2.1 2)) (C := RX7) (T := TX7) (N := 24) hx hb hts in_wsX7_addSurcharge_X7 hown hK.1 hP 0 rfl rfl 18 (by decide) (w_mem hts 1 rfl) (fun _ h9 => h9) rfl dX7_addSurcharge_36 ?_
    refine lv_bipush (v := 6) hx hb dX7_addSurcharge_39 (by decide) ?_
    refine lv_icmp_ne (tgt := 48) hx hb dX7_addSurcharge_41 (by decide) (fun c_41 => ?_) (fun c_41 => ?_)
    · have h := br_F h c_41
      refine lv_iconst (v := 0) hx hb dX7_addSurcharge_48 (by decide) ?_
      exact wX7_addSurcharge_49 bx hA hK u_2.2 x1 x2 0 h hP hD hS _ (lv_sub hl [0, 1, 2] rfl)
    · have h := br_T h c_41
      refine lv_iconst (v := 1) hx hb dX7_addSurcharge_44 (by decide) ?_
      refine lv_goto (tgt := 49) hx hb dX7_addSurcharge_45 (by decide) ?_
      exact wX7_addSurcharge_49 bx hA hK u_2.2 x1 x2 1 h hP hD hS _ (lv_sub hl [0, 1, 2] rfl)

set_option maxHeartbeats 4000000 in
set_option maxRecDepth 100000 in
theorem wX7_addSurcharge_22 {p : Program} {l : Launch} {e : Env} {s : State} {m : MethodId} {args : Array Value} {below : List Frame} {meth : Method} {c : Code} {G : GT} {q : Nat → Nat} {A : Nat → Prop} {out : Int32 × St} (bx : BX p RX7 wsX7_addSurcharge cX7_addSurcharge 3 (some .int) s m args meth c) (hA : ∀ q : Nat, s.heap.size ≤ q → A q) (hK : CK G s) (C : St) (x1 : Int32) (x2 : Int32) (h : pX7_addSurcharge_22 C x1 x2 = some out) {H : Heap} {locs : List Loc} (hP : va_P G.1 vwCl (MW G q C) H) (hD : va_D A (MW G q C)) (hS : va_S A s.heap H locs) (ls : Array Slot) (hl : lv_has ls 3 [(0, .ref (q 0)), (1, .int x1), (2, .int x2)]) : W p l e rmX7_addSurcharge s m args below meth c H locs 0 0 (MQi G (MW G q) A s args below out) (F0 m 22 ls [.ref (q 0)]) := by
  obtain ⟨hx, hb, hr, hts, hown, hml, hlocks⟩ := id bx
  unfold pX7_addSurcharge_22 at h
  refine lv_iconst (v := 1) hx hb dX7_addSurcharge_22 (by decide) ?_
  refine lv_goto (tgt := 27) hx hb dX7_addSurcharge_23 (by decide) ?_
  exact wX7_addSurcharge_27 bx hA hK C x1 x2 1 h hP hD hS _ (lv_sub hl [0, 1, 2] rfl)

set_option maxHeartbeats 4000000 in
set_option maxRecDepth 100000 in
theorem kX7_addSurcharge (l : Launch) (G : GT) (q : Nat → Nat) (C : St) (sz : Nat) (x1 : Int32) (x2 : Int32) (r : Int32 × St) (h : pX7_addSurcharge C x1 x2 = some r) : Met l yX7_addSurcharge wsX7_addSurcharge rmX7_addSurcharge (va_Pc [.ref (q 0), .int x1, .int x2] (wrP G (MW G q C) sz)) (va_Qi (fun v u => (v, u) = r) (fun u t => va_P G.1 vwCl (MW G q u) t.heap) (va_A (MW G q C) sz)) 0 0 (va_A (MW G q C) sz) := by
  refine Met.ofW (cc := cX7_addSurcharge) (maxL := 3) (ret := (some .int)) (by decide) rfl ?_
  intro p e s m args below meth c s₁ B hml hv
  obtain ⟨rfl, hsz, hP, hK, hD0⟩ := hv
  have bx := bx_of B hml
  subst hsz
  have hD := hD0.self (sz := s.heap.size)
  generalize hAe : va_A (MW G q C) s.heap.size = A at hD ⊢
  have hA : ∀ q : Nat, s.heap.size ≤ q → A q := fun q h => by rw [← hAe]; exact Or.inr h
  have hS : va_S A s.heap s.heap [] := va_S.rf
  obtain ⟨hx, hb, hr, hts, hown, hml, hlocks⟩ := id bx
  have hl := lv_entry ([.ref (q 0), .int x1, .int x2]) (n := 3) (Nat.le_of_ble_eq_true rfl)
  rw [lg_entry_eq]
  generalize (lg_sl ([.ref (q 0), .int x1, .int x2]) ++ List.replicate (3 - (lg_sl ([.ref (q 0), .int x1, .int x2])).length) Slot.unset).toArray = ls at hl ⊢
  have hl : lv_has ls 3 [(0, .ref (q 0)), (1, .int x1), (2, .int x2)] := hl
  show W p l e rmX7_addSurcharge s m _ below meth c s.heap [] 0 0 (MQi G (MW G q) A s _ below r) (F0 m 0 ls [])
  unfold pX7_addSurcharge at h
  refine lv_aload_n hx hb dX7_addSurcharge_0 rfl (lv_at hl 0 rfl) ?_
  refine lv_iload_n hx hb dX7_addSurcharge_1 rfl (lv_at hl 1 rfl) ?_
  refine lv_iconst (v := 0) hx hb dX7_addSurcharge_2 (by decide) ?_
  refine lv_bipush (v := 12) hx hb dX7_addSurcharge_3 (by decide) ?_
  obtain ⟨r_1, hr_1, h⟩ := bd_ex h
  refine ro_i (va_runS (As := [.int x1, .int 0, .int 12]) (rest := [.ref (q 0)]) ⟨hx, hb, hml, hown, hts⟩ (kX7_isIn l G q C x1 0 12 r_1 hr_1) (va_cwS 3 hts gX7_addSurcharge_X7_isIn rfl rfl rfl (by decide +kernel) ⟨Nat.le_of_ble_eq_true rfl, Nat.le_of_ble_eq_true rfl⟩) (roS hP hK) rfl rfl hl.1 rfl (lv_room (Nat.le_of_ble_eq_true rfl)) dX7_addSurcharge_5 ⟨Nat.zero_le _, Nat.zero_le _⟩) ?_
  refine lv_if_eq (tgt := 22) hx hb dX7_addSurcharge_8 (by decide) (fun c_8 => ?_) (fun c_8 => ?_)
  · have h := br_T h c_8
    exact wX7_addSurcharge_22 bx hA hK C x1 x2 h hP hD hS _ (lv_sub hl [0, 1, 2] rfl)
  · have h := br_F h c_8
    refine lv_iload_n hx hb dX7_addSurcharge_11 rfl (lv_at hl 2 rfl) ?_
    refine lv_iconst (v := 0) hx hb dX7_addSurcharge_12 (by decide) ?_
    refine lv_sipush (v := 999) hx hb dX7_addSurcharge_13 (by decide) ?_
    obtain ⟨r_5, hr_5, h⟩ := bd_ex h
    refine ro_i (va_runS (As := [.int x2, .int 0, .int 999]) (rest := [.ref (q 0)]) ⟨hx, hb, hml, hown, hts⟩ (kX7_isIn l G q C x2 0 999 r_5 hr_5) (va_cwS 3 hts gX7_addSurcharge_X7_isIn rfl rfl rfl (by decide +kernel) ⟨Nat.le_of_ble_eq_true rfl, Nat.le_of_ble_eq_true rfl⟩) (roS hP hK) rfl rfl hl.1 rfl (lv_room (Nat.le_of_ble_eq_true rfl)) dX7_addSurcharge_16 ⟨Nat.zero_le _, Nat.zero_le _⟩) ?_
    refine lv_if_ne (tgt := 26) hx hb dX7_addSurcharge_19 (by decide) (fun c_19 => ?_) (fun c_19 => ?_)
    · have h := br_F h c_19
      refine lv_iconst (v := 0) hx hb dX7_addSurcharge_26 (by decide) ?_
      exact wX7_addSurcharge_27 bx hA hK C x1 x2 0 h hP hD hS _ (lv_sub hl [0, 1, 2] rfl)
    · have h := br_T h c_19
      exact wX7_addSurcharge_22 bx hA hK C x1 x2 h hP hD hS _ (lv_sub hl [0, 1, 2] rfl)

def rmX7_removeLayer : Room := { frames := 1, cells := 0, slots := 0, locals := 22 }

theorem in_wsX7_removeLayer_X7 : ∀ w ∈ u_ws RX7 TX7 24, w ∈ wsX7_removeLayer := by decide +kernel

set_option maxHeartbeats 4000000 in
set_option maxRecDepth 100000 in
theorem wX7_removeLayer_13 {p : Program} {l : Launch} {e : Env} {s : State} {m : MethodId} {args : Array Value} {below : List Frame} {meth : Method} {c : Code} {G : GT} {q : Nat → Nat} {A : Nat → Prop} {out : Int32 × St} (bx : BX p RX7 wsX7_removeLayer cX7_removeLayer 1 (some .int) s m args meth c) (hA : ∀ q : Nat, s.heap.size ≤ q → A q) (hK : CK G s) (C : St) (t1 : Int32) (h : pX7_removeLayer_13 C t1 = some out) {H : Heap} {locs : List Loc} (hP : va_P G.1 vwCl (MW G q C) H) (hD : va_D A (MW G q C)) (hS : va_S A s.heap H locs) (ls : Array Slot) (hl : lv_has ls 1 [(0, .ref (q 0))]) : W p l e rmX7_removeLayer s m args below meth c H locs 0 0 (MQi G (MW G q) A s args below out) (F0 m 13 ls [.int t1, .ref (q 0)]) := by
  obtain ⟨hx, hb, hr, hts, hown, hml, hlocks⟩ := id bx
  unfold pX7_removeLayer_13 at h
  refine lv_iconst (v := 1) hx hb dX7_removeLayer_13 (by decide) ?_
  obtain ⟨u_1, hu_1, h⟩ := bd_ex h
  refine wr_i (Wd := MW G q) (va_runV (As := [.int t1, .int 1]) (rest := []) ⟨hx, hb, hml, hown, hts⟩ (kX7_isThrown l G q C _ t1 1 u_1 hu_1) (cwV 2 hts gX7_removeLayer_X7_isThrown rfl rfl rfl (by decide +kernel) ⟨Nat.le_of_ble_eq_true rfl, Nat.le_of_ble_eq_true rfl⟩) (wrV hP hD hK 8 0 rfl rfl) rfl rfl hl.1 rfl (lv_room (Nat.le_of_ble_eq_true rfl)) dX7_removeLayer_14 ⟨Nat.zero_le _, Nat.zero_le _⟩) hD hS hA (fun _ => rfl) (fun H locs hP hD hS => ?_)
  refine lv_if_eq (tgt := 22) hx hb dX7_removeLayer_17 (by decide) (fun c_17 => ?_) (fun c_17 => ?_)
  · have h := br_T h c_17
    refine lv_aload_n hx hb dX7_removeLayer_22 rfl (lv_at hl 0 rfl) ?_
    refine lv_dup hx hb dX7_removeLayer_23 rfl ?_
    refine va_get (D := G.1) (ci := 8) (v := .int (u_1.2.1 2)) (C := RX7) (T := TX7) (N := 24) hx hb hts in_wsX7_removeLayer_X7 hown hK.1 hP 0 rfl rfl 18 (by decide) (w_mem hts 1 rfl) (fun _ h9 => h9) rfl dX7_removeLayer_24 ?_
    refine lv_iconst (v := 1) hx hb dX7_removeLayer_27 (by decide) ?_
    refine lv_isub hx hb dX7_removeLayer_28 ?_
    refine va_put (D := G.1) (ci := 8) (v := .int ((u_1.2.1 2) - 1)) (ty := .int) (C := RX7) (T := TX7) (N := 24) hx hb hts in_wsX7_removeLayer_X7 tyX7 tyX7_ok nmX7 hown hK.1 hP hD hS 0 rfl rfl 18 (by decide) (w_mem hts 1 rfl) (fun _ h9 => h9) rfl (by decide +kernel) rfl rfl (Nat.le_of_ble_eq_true rfl) dX7_removeLayer_29 (fun H locs hP hD hS => ?_)
    have hP : va_P G.1 vwCl (MW G q (sS u_1.2 2 ((u_1.2.1 2) - 1))) H := hP
    have hD : va_D A (MW G q (sS u_1.2 2 ((u_1.2.1 2) - 1))) := hD
    obtain ⟨C_2, eC_2, h⟩ := ltv_ex h
    rw [← eC_2] at hP hD
    refine lv_aload_n hx hb dX7_removeLayer_32 rfl (lv_at hl 0 rfl) ?_
    refine va_get (D := G.1) (ci := 8) (v := .int (C_2.1 2)) (C := RX7) (T := TX7) (N := 24) hx hb hts in_wsX7_removeLayer_X7 hown hK.1 hP 0 rfl rfl 18 (by decide) (w_mem hts 1 rfl) (fun _ h9 => h9) rfl dX7_removeLayer_33 ?_
    refine lv_iconst (v := 1) hx hb dX7_removeLayer_36 (by decide) ?_
    refine lv_iadd hx hb dX7_removeLayer_37 ?_
    exact MQi.end hx hb hr hlocks hP hS dX7_removeLayer_38 rfl h
  · have h := br_F h c_17
    refine lv_iconst (v := 0) hx hb dX7_removeLayer_20 (by decide) ?_
    exact MQi.end hx hb hr hlocks hP hS dX7_removeLayer_21 rfl h

set_option maxHeartbeats 4000000 in
set_option maxRecDepth 100000 in
theorem kX7_removeLayer (l : Launch) (G : GT) (q : Nat → Nat) (C : St) (sz : Nat) (r : Int32 × St) (h : pX7_removeLayer C = some r) : Met l yX7_removeLayer wsX7_removeLayer rmX7_removeLayer (va_Pc [.ref (q 0)] (wrP G (MW G q C) sz)) (va_Qi (fun v u => (v, u) = r) (fun u t => va_P G.1 vwCl (MW G q u) t.heap) (va_A (MW G q C) sz)) 0 0 (va_A (MW G q C) sz) := by
  refine Met.ofW (cc := cX7_removeLayer) (maxL := 1) (ret := (some .int)) (by decide) rfl ?_
  intro p e s m args below meth c s₁ B hml hv
  obtain ⟨rfl, hsz, hP, hK, hD0⟩ := hv
  have bx := bx_of B hml
  subst hsz
  have hD := hD0.self (sz := s.heap.size)
  generalize hAe : va_A (MW G q C) s.heap.size = A at hD ⊢
  have hA : ∀ q : Nat, s.heap.size ≤ q → A q := fun q h => by rw [← hAe]; exact Or.inr h
  have hS : va_S A s.heap s.heap [] := va_S.rf
  obtain ⟨hx, hb, hr, hts, hown, hml, hlocks⟩ := id bx
  have hl := lv_entry ([.ref (q 0)]) (n := 1) (Nat.le_of_ble_eq_true rfl)
  rw [lg_entry_eq]
  generalize (lg_sl ([.ref (q 0)]) ++ List.replicate (1 - (lg_sl ([.ref (q 0)])).length) Slot.unset).toArray = ls at hl ⊢
  have hl : lv_has ls 1 [(0, .ref (q 0))] := hl
  show W p l e rmX7_removeLayer s m _ below meth c s.heap [] 0 0 (MQi G (MW G q) A s _ below r) (F0 m 0 ls [])
  unfold pX7_removeLayer at h
  refine lv_aload_n hx hb dX7_removeLayer_0 rfl (lv_at hl 0 rfl) ?_
  refine lv_aload_n hx hb dX7_removeLayer_1 rfl (lv_at hl 0 rfl) ?_
  refine va_get (D := G.1) (ci := 8) (v := .int (C.1 2)) (C := RX7) (T := TX7) (N := 24) hx hb hts in_wsX7_removeLayer_X7 hown hK.1 hP 0 rfl rfl 18 (by decide) (w_mem hts 1 rfl) (fun _ h9 => h9) rfl dX7_removeLayer_2 ?_
  refine lv_if_ne (tgt := 12) hx hb dX7_removeLayer_5 (by decide) (fun c_5 => ?_) (fun c_5 => ?_)
  · have h := br_F h c_5
    refine lv_iconst (v := 0) hx hb dX7_removeLayer_12 (by decide) ?_
    exact wX7_removeLayer_13 bx hA hK C 0 h hP hD hS _ (lv_sub hl [0] rfl)
  · have h := br_T h c_5
    refine lv_iconst (v := 1) hx hb dX7_removeLayer_8 (by decide) ?_
    refine lv_goto (tgt := 13) hx hb dX7_removeLayer_9 (by decide) ?_
    exact wX7_removeLayer_13 bx hA hK C 1 h hP hD hS _ (lv_sub hl [0] rfl)
