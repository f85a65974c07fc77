def rmX0_learn : Room := { frames := 0, cells := 0, slots := 0, locals := 0 }

theorem in_wsX0_learn_X0 : ∀ w ∈ u_ws RX0 TX0 4, w ∈ wsX0_learn := by decide +kernel

set_option maxHeartbeats 4000000 in
set_option maxRecDepth 100000 in
theorem kX0_learn (l : Launch) (G : GT) (q : Nat → Nat) (C : St) (sz : Nat) (x1 : Int32) (x2 : Int32) (x3 : Int32) (r : St) (h : pX0_learn C x1 x2 x3 = some r) : Met l yX0_learn wsX0_learn rmX0_learn (va_Pc [.ref (q 4), .int x1, .int x2, .int x3] (wrP G (CW G q C) sz)) (va_Qv (fun u => u = r) (fun u t => va_P G.1 vwCl (CW G q u) t.heap) (va_A (CW G q C) sz)) 0 0 (va_A (CW G q C) sz) := by
  refine Met.ofW (cc := cX0_learn) (maxL := 4) (ret := none) (by decide) rfl ?_
  intro p e s m args below meth c s₁ B hml hv
  obtain ⟨rfl, hsz, hP, hK, hD0⟩ := hv
  have bx := bx_of B hml
  subst hsz
  have hD := hD0.self (sz := s.heap.size)
  generalize hAe : va_A (CW G q C) s.heap.size = A at hD ⊢
  have hA : ∀ q : Nat, s.heap.size ≤ q → A q := fun q h => by rw [← hAe]; exact Or.inr h
  have hS : va_S A s.heap s.heap [] := va_S.rf
  obtain ⟨hx, hb, hr, hts, hown, hml, hlocks⟩ := id bx
  have hl := lv_entry ([.ref (q 4), .int x1, .int x2, .int x3]) (n := 4) (Nat.le_of_ble_eq_true rfl)
  rw [lg_entry_eq]
  generalize (lg_sl ([.ref (q 4), .int x1, .int x2, .int x3]) ++ List.replicate (4 - (lg_sl ([.ref (q 4), .int x1, .int x2, .int x3])).length) Slot.unset).toArray = ls at hl ⊢
  have hl : lv_has ls 4 [(0, .ref (q 4)), (1, .int x1), (2, .int x2), (3, .int x3)] := hl
  show W p l e rmX0_learn s m _ below meth c s.heap [] 0 0 (MQv G (CW G q) A s _ below r) (F0 m 0 ls [])
  unfold pX0_learn at h
  refine lv_aload_n hx hb dX0_learn_0 rfl (lv_at hl 0 rfl) ?_
  refine va_get (D := G.1) (ci := 0) (v := .ref (q 17)) (C := RX0) (T := TX0) (N := 4) hx hb hts in_wsX0_learn_X0 hown hK.1 hP 4 rfl rfl 0 (by decide) (w_mem hts 1 rfl) (fun _ h9 => h9) rfl dX0_learn_1 ?_
  refine lv_iload_n hx hb dX0_learn_4 rfl (lv_at hl 1 rfl) ?_
  refine lv_iload_n hx hb dX0_learn_5 rfl (lv_at hl 2 rfl) ?_
  obtain ⟨g6, h⟩ := gd_ex h
  refine va_cast (D := G.1) hx hb hK.1 hP hD hS 17 1 rfl rfl g6 dX0_learn_6 (fun H locs hP hD hS => ?_)
  have hP : va_P G.1 vwCl (CW G q (sA C 11 x1.toNatClampNeg (vp_nar .char x2))) H := hP
  have hD : va_D A (CW G q (sA C 11 x1.toNatClampNeg (vp_nar .char x2))) := hD
  obtain ⟨C_1, eC_1, h⟩ := ltv_ex h
  rw [← eC_1] at hP hD
  refine lv_iload_n hx hb dX0_learn_7 rfl (lv_at hl 3 rfl) ?_
  refine lv_if_eq (tgt := 26) hx hb dX0_learn_8 (by decide) (fun c_8 => ?_) (fun c_8 => ?_)
  · have h := br_T h c_8
    refine lv_aload_n hx hb dX0_learn_26 rfl (lv_at hl 0 rfl) ?_
    refine lv_dup hx hb dX0_learn_27 rfl ?_
    refine va_get (D := G.1) (ci := 0) (v := .int (C_1.1 8)) (C := RX0) (T := TX0) (N := 4) hx hb hts in_wsX0_learn_X0 hown hK.1 hP 4 rfl rfl 3 (by decide) (w_mem hts 3 rfl) (fun _ h9 => h9) rfl dX0_learn_28 ?_
    refine lv_iconst (v := 1) hx hb dX0_learn_31 (by decide) ?_
    refine lv_iload_n hx hb dX0_learn_32 rfl (lv_at hl 1 rfl) ?_
    refine lv_ishl hx hb dX0_learn_33 ?_
    refine lv_ior hx hb dX0_learn_34 ?_
    refine va_put (D := G.1) (ci := 0) (v := .int ((C_1.1 8) ||| ((1 : Int32) <<< (x1 &&& 31)))) (ty := .int) (C := RX0) (T := TX0) (N := 4) hx hb hts in_wsX0_learn_X0 tyX0 tyX0_ok nmX0 hown hK.1 hP hD hS 4 rfl rfl 3 (by decide) (w_mem hts 3 rfl) (fun _ h9 => h9) rfl (by decide +kernel) rfl rfl (Nat.le_of_ble_eq_true rfl) dX0_learn_35 (fun H locs hP hD hS => ?_)
    have hP : va_P G.1 vwCl (CW G q (sS C_1 8 ((C_1.1 8) ||| ((1 : Int32) <<< (x1 &&& 31))))) H := hP
    have hD : va_D A (CW G q (sS C_1 8 ((C_1.1 8) ||| ((1 : Int32) <<< (x1 &&& 31))))) := hD
    obtain ⟨C_2, eC_2, h⟩ := ltv_ex h
    rw [← eC_2] at hP hD
    exact MQv.end hx hb hr hlocks hP hS dX0_learn_38 h
  · have h := br_F h c_8
    refine lv_aload_n hx hb dX0_learn_11 rfl (lv_at hl 0 rfl) ?_
    refine lv_dup hx hb dX0_learn_12 rfl ?_
    refine va_get (D := G.1) (ci := 0) (v := .int (C_1.1 7)) (C := RX0) (T := TX0) (N := 4) hx hb hts in_wsX0_learn_X0 hown hK.1 hP 4 rfl rfl 2 (by decide) (w_mem hts 2 rfl) (fun _ h9 => h9) rfl dX0_learn_13 ?_
    refine lv_iconst (v := 1) hx hb dX0_learn_16 (by decide) ?_
    refine lv_iload_n hx hb dX0_learn_17 rfl (lv_at hl 1 rfl) ?_
    refine lv_ishl hx hb dX0_learn_18 ?_
    refine lv_ior hx hb dX0_learn_19 ?_
    refine va_put (D := G.1) (ci := 0) (v := .int ((C_1.1 7) ||| ((1 : Int32) <<< (x1 &&& 31)))) (ty := .int) (C := RX0) (T := TX0) (N := 4) hx hb hts in_wsX0_learn_X0 tyX0 tyX0_ok nmX0 hown hK.1 hP hD hS 4 rfl rfl 2 (by decide) (w_mem hts 2 rfl) (fun _ h9 => h9) rfl (by decide +kernel) rfl rfl (Nat.le_of_ble_eq_true rfl) dX0_learn_20 (fun H locs hP hD hS => ?_)
    have hP : va_P G.1 vwCl (CW G q (sS C_1 7 ((C_1.1 7) ||| ((1 : Int32) <<< (x1 &&& 31))))) H := hP
    have hD : va_D A (CW G q (sS C_1 7 ((C_1.1 7) ||| ((1 : Int32) <<< (x1 &&& 31))))) := hD
    obtain ⟨C_3, eC_3, h⟩ := ltv_ex h
    rw [← eC_3] at hP hD
    refine lv_goto (tgt := 38) hx hb dX0_learn_23 (by decide) ?_
    exact MQv.end hx hb hr hlocks hP hS dX0_learn_38 h

def rmX0_learnByTree : Room := { frames := 2, cells := 0, slots := 0, locals := 45 }

set_option maxHeartbeats 4000000 in
set_option maxRecDepth 100000 in
theorem wX0_learnByTree_54 {p : Program} {l : Launch} {e : Env} {s : State} {m : MethodId} {args : Array Value} {below : List Frame} {meth : Method} {c : Code} {G : GT} {q : Nat → Nat} {A : Nat → Prop} {out : Int32 × St} (bx : BX p RX0 wsX0_learnByTree cX0_learnByTree 4 (some .boolean) s m args meth c) (hA : ∀ q : Nat, s.heap.size ≤ q → A q) (hK : CK G s) (C : St) (t1 : Int32) (t2 : Int32) (t3 : Int32) (h : pX0_learnByTree_54 C t1 t2 t3 = some out) {H : Heap} {locs : List Loc} (hP : va_P G.1 vwCl (CW G q C) H) (hD : va_D A (CW G q C)) (hS : va_S A s.heap H locs) (ls : Array Slot) (hl : lv_has ls 4 []) : W p l e rmX0_learnByTree s m args below meth c H locs 0 0 (MQi G (CW G q) A s args below out) (F0 m 54 ls [.int t3, .int t2, .int t1, .ref (q 4)]) := by
  obtain ⟨hx, hb, hr, hts, hown, hml, hlocks⟩ := id bx
  unfold pX0_learnByTree_54 at h
  obtain ⟨u_2, hu_2, h⟩ := bd_ex h
  refine wr_v (Wd := CW G q) (va_runV (As := [.int t1, .int t2, .int t3]) (rest := []) ⟨hx, hb, hml, hown, hts⟩ (kX0_learn l G q C _ t1 t2 t3 u_2 hu_2) (cwV 3 hts gX0_learnByTree_X0_learn rfl rfl rfl (by decide +kernel) ⟨Nat.le_of_ble_eq_true rfl, Nat.le_of_ble_eq_true rfl⟩) (wrV hP hD hK 0 4 rfl rfl) rfl rfl hl.1 rfl (lv_room (Nat.le_of_ble_eq_true rfl)) dX0_learnByTree_54 ⟨Nat.zero_le _, Nat.zero_le _⟩) hD hS hA (fun _ => rfl) (fun H locs hP hD hS => ?_)
  refine lv_iconst (v := 1) hx hb dX0_learnByTree_57 (by decide) ?_
  exact MQi.end hx hb hr hlocks hP hS dX0_learnByTree_58 rfl h

set_option maxHeartbeats 4000000 in
set_option maxRecDepth 100000 in
theorem wX0_learnByTree_49 {p : Program} {l : Launch} {e : Env} {s : State} {m : MethodId} {args : Array Value} {below : List Frame} {meth : Method} {c : Code} {G : GT} {q : Nat → Nat} {A : Nat → Prop} {out : Int32 × St} (bx : BX p RX0 wsX0_learnByTree cX0_learnByTree 4 (some .boolean) s m args meth c) (hA : ∀ q : Nat, s.heap.size ≤ q → A q) (hK : CK G s) (C : St) (t1 : Int32) (t2 : Int32) (h : pX0_learnByTree_49 C t1 t2 = some out) {H : Heap} {locs : List Loc} (hP : va_P G.1 vwCl (CW G q C) H) (hD : va_D A (CW G q C)) (hS : va_S A s.heap H locs) (ls : Array Slot) (hl : lv_has ls 4 []) : W p l e rmX0_learnByTree s m args below meth c H locs 0 0 (MQi G (CW G q) A s args below out) (F0 m 49 ls [.int t2, .int t1, .ref (q 4)]) := by
  obtain ⟨hx, hb, hr, hts, hown, hml, hlocks⟩ := id bx
  unfold pX0_learnByTree_49 at h
  refine lv_iconst (v := 1) hx hb dX0_learnByTree_49 (by decide) ?_
  refine lv_goto (tgt := 54) hx hb dX0_learnByTree_50 (by decide) ?_
  exact wX0_learnByTree_54 bx hA hK C t1 t2 1 h hP hD hS _ (lv_sub hl [] rfl)

set_option maxHeartbeats 4000000 in
set_option maxRecDepth 100000 in
theorem wX0_learnByTree_20 {p : Program} {l : Launch} {e : Env} {s : State} {m : MethodId} {args : Array Value} {below : List Frame} {meth : Method} {c : Code} {G : GT} {q : Nat → Nat} {A : Nat → Prop} {out : Int32 × St} (bx : BX p RX0 wsX0_learnByTree cX0_learnByTree 4 (some .boolean) s m args meth c) (hA : ∀ q : Nat, s.heap.size ≤ q → A q) (hK : CK G s) (C : St) (x2 : Int32) (x3 : Int32) (h : pX0_learnByTree_20 C x2 x3 = some out) {H : Heap} {locs : List Loc} (hP : va_P G.1 vwCl (CW G q C) H) (hD : va_D A (CW G q C)) (hS : va_S A s.heap H locs) (ls : Array Slot) (hl : lv_has ls 4 [(0, .ref (q 4)), (2, .int x2), (3, .int x3)]) : W p l e rmX0_learnByTree s m args below meth c H locs 0 0 (MQi G (CW G q) A s args below out) (F0 m 20 ls []) := by
  obtain ⟨hx, hb, hr, hts, hown, hml, hlocks⟩ := id bx
  unfold pX0_learnByTree_20 at h
  refine lv_iload_n hx hb dX0_learnByTree_20 rfl (lv_at hl 2 rfl) ?_
  refine lv_bipush (v := 32) hx hb dX0_learnByTree_21 (by decide) ?_
  refine lv_icmp_ne (tgt := 28) hx hb dX0_learnByTree_23 (by decide) (fun c_23 => ?_) (fun c_23 => ?_)
  · have h := br_F h c_23
    refine lv_aload_n hx hb dX0_learnByTree_28 rfl (lv_at hl 0 rfl) ?_
    refine lv_iload_n hx hb dX0_learnByTree_29 rfl (lv_at hl 1 rfl) ?_
    refine lv_iload_n hx hb dX0_learnByTree_30 rfl (lv_at hl 2 rfl) ?_
    refine lv_iload_n hx hb dX0_learnByTree_31 rfl (lv_at hl 2 rfl) ?_
    refine lv_bipush (v := 99) hx hb dX0_learnByTree_32 (by decide) ?_
    refine lv_icmp_eq (tgt := 49) hx hb dX0_learnByTree_34 (by decide) (fun c_34 => ?_) (fun c_34 => ?_)
    · have h := br_T h c_34
      exact wX0_learnByTree_49 bx hA hK C x2 x3 h hP hD hS _ (lv_sub hl [] rfl)
    · have h := br_F h c_34
      refine lv_iload_n hx hb dX0_learnByTree_37 rfl (lv_at hl 2 rfl) ?_
      refine lv_bipush (v := 109) hx hb dX0_learnByTree_38 (by decide) ?_
      refine lv_icmp_eq (tgt := 49) hx hb dX0_learnByTree_40 (by decide) (fun c_40 => ?_) (fun c_40 => ?_)
      · have h := br_T h c_40
        exact wX0_learnByTree_49 bx hA hK C x2 x3 h hP hD hS _ (lv_sub hl [] rfl)
      · have h := br_F h c_40
        refine lv_iload_n hx hb dX0_learnByTree_43 rfl (lv_at hl 2 rfl) ?_
        refine lv_bipush (v := 110) hx hb dX0_learnByTree_44 (by decide) ?_
        refine lv_icmp_ne (tgt := 53) hx hb dX0_learnByTree_46 (by decide) (fun c_46 => ?_) (fun c_46 => ?_)
        · have h := br_F h c_46
          refine lv_iconst (v := 0) hx hb dX0_learnByTree_53 (by decide) ?_
          exact wX0_learnByTree_54 bx hA hK C x2 x3 0 h hP hD hS _ (lv_sub hl [] rfl)
        · have h := br_T h c_46
          exact wX0_learnByTree_49 bx hA hK C x2 x3 h hP hD hS _ (lv_sub hl [] rfl)
  · have h := br_T h c_23
    refine lv_iconst (v := 0) hx hb dX0_learnByTree_26 (by decide) ?_
    exact MQi.end hx hb hr hlocks hP hS dX0_learnByTree_27 rfl h

set_option maxHeartbeats 4000000 in
set_option maxRecDepth 100000 in
theorem kX0_learnByTree (l : Launch) (G : GT) (q : Nat → Nat) (C : St) (sz : Nat) (x2 : Int32) (r : Int32 × St) (h : pX0_learnByTree C x2 = some r) : Met l yX0_learnByTree wsX0_learnByTree rmX0_learnByTree (va_Pc [.ref (q 4), .ref (q 1), .int x2] (wrP G (CW G q C) sz)) (va_Qi (fun v u => (v, u) = r) (fun u t => va_P G.1 vwCl (CW G q u) t.heap) (va_A (CW G q C) sz)) 0 0 (va_A (CW G q C) sz) := by
  refine Met.ofW (cc := cX0_learnByTree) (maxL := 4) (ret := (some .boolean)) (by decide) rfl ?_
  intro p e s m args below meth c s₁ B hml hv
  obtain ⟨rfl, hsz, hP, hK, hD0⟩ := hv
  have bx := bx_of B hml
  subst hsz
  have hD := hD0.self (sz := s.heap.size)
  generalize hAe : va_A (CW G q C) s.heap.size = A at hD ⊢
  have hA : ∀ q : Nat, s.heap.size ≤ q → A q := fun q h => by rw [← hAe]; exact Or.inr h
  have hS : va_S A s.heap s.heap [] := va_S.rf
  obtain ⟨hx, hb, hr, hts, hown, hml, hlocks⟩ := id bx
  have hl := lv_entry ([.ref (q 4), .ref (q 1), .int x2]) (n := 4) (Nat.le_of_ble_eq_true rfl)
  rw [lg_entry_eq]
  generalize (lg_sl ([.ref (q 4), .ref (q 1), .int x2]) ++ List.replicate (4 - (lg_sl ([.ref (q 4), .ref (q 1), .int x2])).length) Slot.unset).toArray = ls at hl ⊢
  have hl : lv_has ls 4 [(0, .ref (q 4)), (1, .ref (q 1)), (2, .int x2)] := hl
  show W p l e rmX0_learnByTree s m _ below meth c s.heap [] 0 0 (MQi G (CW G q) A s _ below r) (F0 m 0 ls [])
  unfold pX0_learnByTree at h
  refine lv_aload_n hx hb dX0_learnByTree_0 rfl (lv_at hl 0 rfl) ?_
  refine lv_aload_n hx hb dX0_learnByTree_1 rfl (lv_at hl 1 rfl) ?_
  refine lv_iload_n hx hb dX0_learnByTree_2 rfl (lv_at hl 2 rfl) ?_
  obtain ⟨r_1, hr_1, h⟩ := bd_ex h
  refine ro_i (va_runV (As := [.ref (q 1), .int x2]) (rest := []) ⟨hx, hb, hml, hown, hts⟩ (kX0_letterByKin l G q C x2 r_1 hr_1) (cwV 2 hts gX0_learnByTree_X0_letterByKin rfl rfl rfl (by decide +kernel) ⟨Nat.le_of_ble_eq_true rfl, Nat.le_of_ble_eq_true rfl⟩) (roV hP hK 0 4 rfl rfl) rfl rfl hl.1 rfl (lv_room (Nat.le_of_ble_eq_true rfl)) dX0_learnByTree_3 ⟨Nat.zero_le _, Nat.zero_le _⟩) ?_
  refine lv_istore_n (lv' := [(3, .int r_1), (0, .ref (q 4)), (1, .ref (q 1)), (2, .int x2)]) hx hb dX0_learnByTree_6 rfl hl (by decide) rfl (fun ls hl => ?_)
  refine lv_iload_n hx hb dX0_learnByTree_7 rfl (lv_at hl 0 rfl) ?_
  refine lv_bipush (v := 32) hx hb dX0_learnByTree_8 (by decide) ?_
  refine lv_icmp_ne (tgt := 20) hx hb dX0_learnByTree_10 (by decide) (fun c_10 => ?_) (fun c_10 => ?_)
  · have h := br_F h c_10
    exact wX0_learnByTree_20 bx hA hK C x2 r_1 h hP hD hS _ (lv_sub hl [1, 3, 0] rfl)
  · have h := br_T h c_10
    refine lv_aload_n hx hb dX0_learnByTree_13 rfl (lv_at hl 1 rfl) ?_
    refine lv_aload_n hx hb dX0_learnByTree_14 rfl (lv_at hl 2 rfl) ?_
    refine lv_iload_n hx hb dX0_learnByTree_15 rfl (lv_at hl 3 rfl) ?_
    obtain ⟨r_3, hr_3, h⟩ := bd_ex h
    refine ro_i (va_runV (As := [.ref (q 1), .int x2]) (rest := []) ⟨hx, hb, hml, hown, hts⟩ (kX0_letterByGroup l G q C x2 r_3 hr_3) (cwV 2 hts gX0_learnByTree_X0_letterByGroup rfl rfl rfl (by decide +kernel) ⟨Nat.le_of_ble_eq_true rfl, Nat.le_of_ble_eq_true rfl⟩) (roV hP hK 0 4 rfl rfl) rfl rfl hl.1 rfl (lv_room (Nat.le_of_ble_eq_true rfl)) dX0_learnByTree_16 ⟨Nat.zero_le _, Nat.zero_le _⟩) ?_
    refine lv_istore_n (lv' := [(3, .int r_3), (0, .ref (q 4)), (1, .ref (q 1)), (2, .int x2)]) hx hb dX0_learnByTree_19 rfl hl (by decide) rfl (fun ls hl => ?_)
    exact wX0_learnByTree_20 bx hA hK C x2 r_3 h hP hD hS _ (lv_sub hl [1, 3, 0] rfl)

def rmX0_learnByRule : Room := { frames := 2, cells := 0, slots := 0, locals := 47 }

theorem in_wsX0_learnByRule_X3 : ∀ w ∈ u_ws RX3 TX3 5, w ∈ wsX0_learnByRule := by decide +kernel

theorem in_wsX0_learnByRule_X0 : ∀ w ∈ u_ws RX0 TX0 4, w ∈ wsX0_learnByRule := by decide +kernel

set_option maxHeartbeats 4000000 in
set_option maxRecDepth 100000 in
theorem kX0_learnByRule (l : Launch) (G : GT) (q : Nat → Nat) (C : St) (sz : Nat) (x2 : Int32) (r : Int32 × St) (h : pX0_learnByRule C x2 = some r) : Met l yX0_learnByRule wsX0_learnByRule rmX0_learnByRule (va_Pc [.ref (q 4), .ref (q 2), .int x2] (wrP G (CW G q C) sz)) (va_Qi (fun v u => (v, u) = r) (fun u t => va_P G.1 vwCl (CW G q u) t.heap) (va_A (CW G q C) sz)) 0 0 (va_A (CW G q C) sz) := by
  refine Met.ofW (cc := cX0_learnByRule) (maxL := 4) (ret := (some .boolean)) (by decide) rfl ?_
  intro p e s m args below meth c s₁ B hml hv
  obtain ⟨rfl, hsz, hP, hK, hD0⟩ := hv
  have bx := bx_of B hml
  subst hsz
  have hD := hD0.self (sz := s.heap.size)
  generalize hAe : va_A (CW G q C) s.heap.size = A at hD ⊢
  have hA : ∀ q : Nat, s.heap.size ≤ q → A q := fun q h => by rw [← hAe]; exact Or.inr h
  have hS : va_S A s.heap s.heap [] := va_S.rf
  obtain ⟨hx, hb, hr, hts, hown, hml, hlocks⟩ := id bx
  have hl := lv_entry ([.ref (q 4), .ref (q 2), .int x2]) (n := 4) (Nat.le_of_ble_eq_true rfl)
  rw [lg_entry_eq]
  generalize (lg_sl ([.ref (q 4), .ref (q 2), .int x2]) ++ List.replicate (4 - (lg_sl ([.ref (q 4), .ref (q 2), .int x2])).length) Slot.unset).toArray = ls at hl ⊢
  have hl : lv_has ls 4 [(0, .ref (q 4)), (1, .ref (q 2)), (2, .int x2)] := hl
  show W p l e rmX0_learnByRule s m _ below meth c s.heap [] 0 0 (MQi G (CW G q) A s _ below r) (F0 m 0 ls [])
  unfold pX0_learnByRule at h
  refine lv_aload_n hx hb dX0_learnByRule_0 rfl (lv_at hl 1 rfl) ?_
  refine lv_iload_n hx hb dX0_learnByRule_1 rfl (lv_at hl 2 rfl) ?_
  refine lv_aload_n hx hb dX0_learnByRule_2 rfl (lv_at hl 0 rfl) ?_
  refine va_get (D := G.1) (ci := 0) (v := .int (C.1 7)) (C := RX0) (T := TX0) (N := 4) hx hb hts in_wsX0_learnByRule_X0 hown hK.1 hP 4 rfl rfl 2 (by decide) (w_mem hts 1 rfl) (fun _ h9 => h9) rfl dX0_learnByRule_3 ?_
  refine lv_aload_n hx hb dX0_learnByRule_6 rfl (lv_at hl 0 rfl) ?_
  refine va_get (D := G.1) (ci := 0) (v := .int (C.1 8)) (C := RX0) (T := TX0) (N := 4) hx hb hts in_wsX0_learnByRule_X0 hown hK.1 hP 4 rfl rfl 3 (by decide) (w_mem hts 2 rfl) (fun _ h9 => h9) rfl dX0_learnByRule_7 ?_
  obtain ⟨r_1, hr_1, h⟩ := bd_ex h
  refine ro_i (va_runVN (As := [.int x2, .int (C.1 7), .int (C.1 8)]) (rest := []) ⟨hx, hb, hml, hown, hts⟩ (kX3_lastKeptBy l G q C x2 (C.1 7) (C.1 8) r_1 hr_1) ⟨va_cnB 3 hts gX0_learnByRule_X3_lastKeptBy_n62 rfl rfl rfl (hK.2.nw 16 rfl) (w_mem hts 5 rfl) (by decide +kernel) ⟨Nat.le_of_ble_eq_true rfl, Nat.le_of_ble_eq_true rfl⟩, (w_mem hts 4 rfl), (w_mem hts 6 rfl)⟩ (roV hP hK 3 2 rfl rfl) rfl rfl hl.1 rfl (lv_room (Nat.le_of_ble_eq_true rfl)) dX0_learnByRule_10 ⟨Nat.zero_le _, Nat.zero_le _⟩) ?_
  refine lv_istore_n (lv' := [(3, .int r_1), (0, .ref (q 4)), (1, .ref (q 2)), (2, .int x2)]) hx hb dX0_learnByRule_13 rfl hl (by decide) rfl (fun ls hl => ?_)
  refine lv_iload_n hx hb dX0_learnByRule_14 rfl (lv_at hl 0 rfl) ?_
  refine lv_if_ge (tgt := 20) hx hb dX0_learnByRule_15 (by decide) (fun c_15 => ?_) (fun c_15 => ?_)
  · have h := br_T h c_15
    refine lv_aload_n hx hb dX0_learnByRule_20 rfl (lv_at hl 1 rfl) ?_
    refine va_get (D := G.1) (ci := 0) (v := .ref (q 18)) (C := RX0) (T := TX0) (N := 4) hx hb hts in_wsX0_learnByRule_X0 hown hK.1 hP 4 rfl rfl 1 (by decide) (w_mem hts 3 rfl) (fun _ h9 => h9) rfl dX0_learnByRule_21 ?_
    refine lv_iload_n hx hb dX0_learnByRule_24 rfl (lv_at hl 3 rfl) ?_
    refine lv_iload_n hx hb dX0_learnByRule_25 rfl (lv_at hl 0 rfl) ?_
    obtain ⟨g26, h⟩ := gd_ex h
    refine va_iast (D := G.1) hx hb hK.1 hP hD hS 18 0 rfl rfl g26 dX0_learnByRule_26 (fun H locs hP hD hS => ?_)
    have hP : va_P G.1 vwCl (CW G q (sA C 12 x2.toNatClampNeg r_1)) H := hP
    have hD : va_D A (CW G q (sA C 12 x2.toNatClampNeg r_1)) := hD
    obtain ⟨C_2, eC_2, h⟩ := ltv_ex h
    rw [← eC_2] at hP hD
    refine lv_aload_n hx hb dX0_learnByRule_27 rfl (lv_at hl 1 rfl) ?_
    refine lv_iload_n hx hb dX0_learnByRule_28 rfl (lv_at hl 3 rfl) ?_
    refine lv_bipush (v := 114) hx hb dX0_learnByRule_29 (by decide) ?_
    refine lv_aload_n hx hb dX0_learnByRule_31 rfl (lv_at hl 2 rfl) ?_
    refine va_getN (D := G.1) (ci := 3) (v := .ref (q 10)) (C := RX3) (T := TX3) (N := 5) hx hb hts in_wsX0_learnByRule_X3 hown hK.1 hP 2 rfl rfl 0 (by decide) (hK.2.at 33 rfl) (fun _ h9 => h9) rfl dX0_learnByRule_32 ?_
    refine lv_iload_n hx hb dX0_learnByRule_35 rfl (lv_at hl 0 rfl) ?_
    obtain ⟨g36, h⟩ := gd_ex h
    refine va_iald (D := G.1) hx hb hK.1 hP 10 0 rfl rfl g36 dX0_learnByRule_36 ?_
    refine lv_iload_n hx hb dX0_learnByRule_37 rfl (lv_at hl 3 rfl) ?_
    obtain ⟨r_3, hr_3, h⟩ := bd_ex h
    refine ro_i (va_runSN (As := [.int (C_2.2 4 r_1.toNatClampNeg), .int x2]) (rest := [.int 114, .int x2, .ref (q 4)]) ⟨hx, hb, hml, hown, hts⟩ (kX6_has l G q C_2 (C_2.2 4 r_1.toNatClampNeg) x2 r_3 hr_3) ⟨va_cnB 2 hts gX0_learnByRule_X6_has_n31 rfl rfl rfl (hK.2.nw 15 rfl) (w_mem hts 13 rfl) (by decide +kernel) ⟨Nat.le_of_ble_eq_true rfl, Nat.le_of_ble_eq_true rfl⟩, (w_mem hts 12 rfl), trivial⟩ (roS hP hK) rfl rfl hl.1 rfl (lv_room (Nat.le_of_ble_eq_true rfl)) dX0_learnByRule_38 ⟨Nat.zero_le _, Nat.zero_le _⟩) ?_
    obtain ⟨u_4, hu_4, h⟩ := bd_ex h
    refine wr_v (Wd := CW G q) (va_runV (As := [.int x2, .int 114, .int r_3]) (rest := []) ⟨hx, hb, hml, hown, hts⟩ (kX0_learn l G q C_2 _ x2 114 r_3 u_4 hu_4) (cwV 3 hts gX0_learnByRule_X0_learn rfl rfl rfl (by decide +kernel) ⟨Nat.le_of_ble_eq_true rfl, Nat.le_of_ble_eq_true rfl⟩) (wrV hP hD hK 0 4 rfl rfl) rfl rfl hl.1 rfl (lv_room (Nat.le_of_ble_eq_true rfl)) dX0_learnByRule_41 ⟨Nat.zero_le _, Nat.zero_le _⟩) hD hS hA (fun _ => rfl) (fun H locs hP hD hS => ?_)
    refine lv_iconst (v := 1) hx hb dX0_learnByRule_44 (by decide) ?_
    exact MQi.end hx hb hr hlocks hP hS dX0_learnByRule_45 rfl h
  · have h := br_F h c_15
    refine lv_iconst (v := 0) hx hb dX0_learnByRule_18 (by decide) ?_
    exact MQi.end hx hb hr hlocks hP hS dX0_learnByRule_19 rfl h

def rmX0_learnLowest : Room := { frames := 3, cells := 0, slots := 0, locals := 70 }

theorem in_wsX0_learnLowest_X5 : ∀ w ∈ u_ws RX5 TX5 6, w ∈ wsX0_learnLowest := by decide +kernel

set_option maxHeartbeats 4000000 in
set_option maxRecDepth 100000 in
theorem wX0_learnLowest_38 {p : Program} {l : Launch} {e : Env} {s : State} {m : MethodId} {args : Array Value} {below : List Frame} {meth : Method} {c : Code} {G : GT} {q : Nat → Nat} {A : Nat → Prop} {out : Int32 × St} (bx : BX p RX0 wsX0_learnLowest cX0_learnLowest 4 (some .boolean) s m args meth c) (hA : ∀ q : Nat, s.heap.size ≤ q → A q) (hK : CK G s) {k2 : St → Int32 → Option (Int32 × St)} (hk2 : ∀ (C : St) (x3 : Int32), k2 C x3 = some out → ∀ (H : Heap) (locs : List Loc) (hP : va_P G.1 vwCl (CW G q C) H) (hD : va_D A (CW G q C)) (hS : va_S A s.heap H locs), ∀ (ls : Array Slot), lv_has ls 4 [(0, .ref (q 4)), (1, .ref (q 1)), (2, .ref (q 2)), (3, .int x3)] → W p l e rmX0_learnLowest s m args below meth c H locs 0 0 (MQi G (CW G q) A s args below out) (F0 m 2 ls [])) (C : St) (x3 : Int32) (h : pX0_learnLowest_38 k2 C x3 = some out) {H : Heap} {locs : List Loc} (hP : va_P G.1 vwCl (CW G q C) H) (hD : va_D A (CW G q C)) (hS : va_S A s.heap H locs) (ls : Array Slot) (hl : lv_has ls 4 [(0, .ref (q 4)), (1, .ref (q 1)), (2, .ref (q 2)), (3, .int x3)]) : W p l e rmX0_learnLowest s m args below meth c H locs 0 0 (MQi G (CW G q) A s args below out) (F0 m 38 ls []) := by
  obtain ⟨hx, hb, hr, hts, hown, hml, hlocks⟩ := id bx
  unfold pX0_learnLowest_38 at h
  obtain ⟨v_2, ev_2, h⟩ := ltv_ex h
  refine lv_iinc (v := v_2) (lv' := [(3, .int v_2), (0, .ref (q 4)), (1, .ref (q 1)), (2, .ref (q 2))]) hx hb dX0_learnLowest_38 hl (k := 3) rfl (by rw [ev_2]; rfl) (by decide) rfl (fun ls hl => ?_)
  refine lv_goto (tgt := 2) hx hb dX0_learnLowest_41 (by decide) ?_
  exact hk2 C v_2 h _ _ hP hD hS _ (lv_sub hl [1, 2, 3, 0] rfl)

set_option maxHeartbeats 4000000 in
set_option maxRecDepth 100000 in
theorem wX0_learnLowest_2_b {p : Program} {l : Launch} {e : Env} {s : State} {m : MethodId} {args : Array Value} {below : List Frame} {meth : Method} {c : Code} {G : GT} {q : Nat → Nat} {A : Nat → Prop} {out : Int32 × St} (bx : BX p RX0 wsX0_learnLowest cX0_learnLowest 4 (some .boolean) s m args meth c) (hA : ∀ q : Nat, s.heap.size ≤ q → A q) (hK : CK G s) {k2 : St → Int32 → Option (Int32 × St)} (hk2 : ∀ (C : St) (x3 : Int32), k2 C x3 = some out → ∀ (H : Heap) (locs : List Loc) (hP : va_P G.1 vwCl (CW G q C) H) (hD : va_D A (CW G q C)) (hS : va_S A s.heap H locs), ∀ (ls : Array Slot), lv_has ls 4 [(0, .ref (q 4)), (1, .ref (q 1)), (2, .ref (q 2)), (3, .int x3)] → W p l e rmX0_learnLowest s m args below meth c H locs 0 0 (MQi G (CW G q) A s args below out) (F0 m 2 ls [])) (C : St) (x3 : Int32) (h : pX0_learnLowest_2_b k2 C x3 = some out) {H : Heap} {locs : List Loc} (hP : va_P G.1 vwCl (CW G q C) H) (hD : va_D A (CW G q C)) (hS : va_S A s.heap H locs) (ls : Array Slot) (hl : lv_has ls 4 [(0, .ref (q 4)), (1, .ref (q 1)), (2, .ref (q 2)), (3, .int x3)]) : W p l e rmX0_learnLowest s m args below meth c H locs 0 0 (MQi G (CW G q) A s args below out) (F0 m 2 ls []) := by
  obtain ⟨hx, hb, hr, hts, hown, hml, hlocks⟩ := id bx
  unfold pX0_learnLowest_2_b at h
  refine lv_iload_n hx hb dX0_learnLowest_2 rfl (lv_at hl 3 rfl) ?_
  refine lv_aload_n hx hb dX0_learnLowest_3 rfl (lv_at hl 1 rfl) ?_
  refine va_getN (D := G.1) (ci := 4) (v := .int (C.1 3)) (C := RX5) (T := TX5) (N := 6) hx hb hts in_wsX0_learnLowest_X5 hown hK.1 hP 1 rfl rfl 5 (by decide) (hK.2.at 32 rfl) (fun _ h9 => h9) rfl dX0_learnLowest_4 ?_
  refine lv_icmp_ge (tgt := 44) hx hb dX0_learnLowest_7 (by decide) (fun c_7 => ?_) (fun c_7 => ?_)
  · have h := br_T h c_7
    refine lv_iconst (v := 0) hx hb dX0_learnLowest_44 (by decide) ?_
    exact MQi.end hx hb hr hlocks hP hS dX0_learnLowest_45 rfl h
  · have h := br_F h c_7
    refine lv_aload_n hx hb dX0_learnLowest_10 rfl (lv_at hl 0 rfl) ?_
    refine lv_iload_n hx hb dX0_learnLowest_11 rfl (lv_at hl 3 rfl) ?_
    obtain ⟨r_1, hr_1, h⟩ := bd_ex h
    refine ro_i (va_runV (As := [.int x3]) (rest := []) ⟨hx, hb, hml, hown, hts⟩ (kX0_knows l G q C x3 r_1 hr_1) (cwV 1 hts gX0_learnLowest_X0_knows rfl rfl rfl (by decide +kernel) ⟨Nat.le_of_ble_eq_true rfl, Nat.le_of_ble_eq_true rfl⟩) (roV hP hK 0 4 rfl rfl) rfl rfl hl.1 rfl (lv_room (Nat.le_of_ble_eq_true rfl)) dX0_learnLowest_12 ⟨Nat.zero_le _, Nat.zero_le _⟩) ?_
    refine lv_if_ne (tgt := 38) hx hb dX0_learnLowest_15 (by decide) (fun c_15 => ?_) (fun c_15 => ?_)
    · have h := br_F h c_15
      exact wX0_learnLowest_38 bx hA hK hk2 C x3 h hP hD hS _ (lv_sub hl [0, 1, 2, 3] rfl)
    · have h := br_T h c_15
      refine lv_aload_n hx hb dX0_learnLowest_18 rfl (lv_at hl 0 rfl) ?_
      refine lv_aload_n hx hb dX0_learnLowest_19 rfl (lv_at hl 1 rfl) ?_
      refine lv_iload_n hx hb dX0_learnLowest_20 rfl (lv_at hl 3 rfl) ?_
      obtain ⟨u_3, hu_3, h⟩ := bd_ex h
      refine wr_i (Wd := CW G q) (va_runV (As := [.ref (q 1), .int x3]) (rest := []) ⟨hx, hb, hml, hown, hts⟩ (kX0_learnByTree l G q C _ x3 u_3 hu_3) (cwV 2 hts gX0_learnLowest_X0_learnByTree rfl rfl rfl (by decide +kernel) ⟨Nat.le_of_ble_eq_true rfl, Nat.le_of_ble_eq_true rfl⟩) (wrV hP hD hK 0 4 rfl rfl) rfl rfl hl.1 rfl (lv_room (Nat.le_of_ble_eq_true rfl)) dX0_learnLowest_21 ⟨Nat.zero_le _, Nat.zero_le _⟩) hD hS hA (fun _ => rfl) (fun H locs hP hD hS => ?_)
      refine lv_if_ne (tgt := 36) hx hb dX0_learnLowest_24 (by decide) (fun c_24 => ?_) (fun c_24 => ?_)
      · have h := br_F h c_24
        refine lv_iconst (v := 1) hx hb dX0_learnLowest_36 (by decide) ?_
        exact MQi.end hx hb hr hlocks hP hS dX0_learnLowest_37 rfl h
      · have h := br_T h c_24
        refine lv_aload_n hx hb dX0_learnLowest_27 rfl (lv_at hl 0 rfl) ?_
        refine lv_aload_n hx hb dX0_learnLowest_28 rfl (lv_at hl 2 rfl) ?_
        refine lv_iload_n hx hb dX0_learnLowest_29 rfl (lv_at hl 3 rfl) ?_
        obtain ⟨u_4, hu_4, h⟩ := bd_ex h
        refine wr_i (Wd := CW G q) (va_runV (As := [.ref (q 2), .int x3]) (rest := []) ⟨hx, hb, hml, hown, hts⟩ (kX0_learnByRule l G q u_3.2 _ x3 u_4 hu_4) (cwV 2 hts gX0_learnLowest_X0_learnByRule rfl rfl rfl (by decide +kernel) ⟨Nat.le_of_ble_eq_true rfl, Nat.le_of_ble_eq_true rfl⟩) (wrV hP hD hK 0 4 rfl rfl) rfl rfl hl.1 rfl (lv_room (Nat.le_of_ble_eq_true rfl)) dX0_learnLowest_30 ⟨Nat.zero_le _, Nat.zero_le _⟩) hD hS hA (fun _ => rfl) (fun H locs hP hD hS => ?_)
        refine lv_if_eq (tgt := 38) hx hb dX0_learnLowest_33 (by decide) (fun c_33 => ?_) (fun c_33 => ?_)
        · have h := br_T h c_33
          exact wX0_learnLowest_38 bx hA hK hk2 u_4.2 x3 h hP hD hS _ (lv_sub hl [0, 1, 2, 3] rfl)
        · have h := br_F h c_33
          refine lv_iconst (v := 1) hx hb dX0_learnLowest_36 (by decide) ?_
          exact MQi.end hx hb hr hlocks hP hS dX0_learnLowest_37 rfl h

theorem wX0_learnLowest_2 {p : Program} {l : Launch} {e : Env} {s : State} {m : MethodId} {args : Array Value} {below : List Frame} {meth : Method} {c : Code} {G : GT} {q : Nat → Nat} {A : Nat → Prop} {out : Int32 × St} (bx : BX p RX0 wsX0_learnLowest cX0_learnLowest 4 (some .boolean) s m args meth c) (hA : ∀ q : Nat, s.heap.size ≤ q → A q) (hK : CK G s) :
    ∀ (n : Nat) (C : St) (x3 : Int32), pX0_learnLowest_2 n C x3 = some out → ∀ (H : Heap) (locs : List Loc) (hP : va_P G.1 vwCl (CW G q C) H) (hD : va_D A (CW G q C)) (hS : va_S A s.heap H locs), ∀ (ls : Array Slot), lv_has ls 4 [(0, .ref (q 4)), (1, .ref (q 1)), (2, .ref (q 2)), (3, .int x3)] → W p l e rmX0_learnLowest s m args below meth c H locs 0 0 (MQi G (CW G q) A s args below out) (F0 m 2 ls []) := by
  intro n
  induction n with
  | zero => intro _ _ h; cases h
  | succ n ih => exact fun a0 a1 h _ _ hP hD hS ls hl => wX0_learnLowest_2_b bx hA hK ih a0 a1 h hP hD hS ls hl

set_option maxHeartbeats 4000000 in
set_option maxRecDepth 100000 in
theorem kX0_learnLowest (l : Launch) (G : GT) (q : Nat → Nat) (C : St) (sz : Nat) (r : Int32 × St) (h : pX0_learnLowest C = some r) : Met l yX0_learnLowest wsX0_learnLowest rmX0_learnLowest (va_Pc [.ref (q 4), .ref (q 1), .ref (q 2)] (wrP G (CW G q C) sz)) (va_Qi (fun v u => (v, u) = r) (fun u t => va_P G.1 vwCl (CW G q u) t.heap) (va_A (CW G q C) sz)) 0 0 (va_A (CW G q C) sz) := by
  refine Met.ofW (cc := cX0_learnLowest) (maxL := 4) (ret := (some .boolean)) (by decide) rfl ?_
  intro p e s m args below meth c s₁ B hml hv
  obtain ⟨rfl, hsz, hP, hK, hD0⟩ := hv
  have bx := bx_of B hml
  subst hsz
  have hD := hD0.self (sz := s.heap.size)
  generalize hAe : va_A (CW G q C) s.heap.size = A at hD ⊢
  have hA : ∀ q : Nat, s.heap.size ≤ q → A q := fun q h => by rw [← hAe]; exact Or.inr h
  have hS : va_S A s.heap s.heap [] := va_S.rf
  obtain ⟨hx, hb, hr, hts, hown, hml, hlocks⟩ := id bx
  have hl := lv_entry ([.ref (q 4), .ref (q 1), .ref (q 2)]) (n := 4) (Nat.le_of_ble_eq_true rfl)
  rw [lg_entry_eq]
  generalize (lg_sl ([.ref (q 4), .ref (q 1), .ref (q 2)]) ++ List.replicate (4 - (lg_sl ([.ref (q 4), .ref (q 1), .ref (q 2)])).length) Slot.unset).toArray = ls at hl ⊢
  have hl : lv_has ls 4 [(0, .ref (q 4)), (1, .ref (q 1)), (2, .ref (q 2))] := hl
  show W p l e rmX0_learnLowest s m _ below meth c s.heap [] 0 0 (MQi G (CW G q) A s _ below r) (F0 m 0 ls [])
  unfold pX0_learnLowest at h
  refine lv_iconst (v := 0) hx hb dX0_learnLowest_0 (by decide) ?_
  refine lv_istore_n (lv' := [(3, .int 0), (0, .ref (q 4)), (1, .ref (q 1)), (2, .ref (q 2))]) hx hb dX0_learnLowest_1 rfl hl (by decide) rfl (fun ls hl => ?_)
  exact wX0_learnLowest_2 bx hA hK FU C 0 h _ _ hP hD hS _ (lv_sub hl [1, 2, 3, 0] rfl)

def rmX0_run : Room := { frames := 4, cells := 0, slots := 0, locals := 93 }

theorem in_wsX0_run_X5 : ∀ w ∈ u_ws RX5 TX5 6, w ∈ wsX0_run := by decide +kernel

theorem in_wsX0_run_X0 : ∀ w ∈ u_ws RX0 TX0 4, w ∈ wsX0_run := by decide +kernel

set_option maxHeartbeats 4000000 in
set_option maxRecDepth 100000 in
theorem wX0_run_71_b {p : Program} {l : Launch} {e : Env} {s : State} {m : MethodId} {args : Array Value} {below : List Frame} {meth : Method} {c : Code} {G : GT} {q : Nat → Nat} {A : Nat → Prop} {out : St} (bx : BX p RX0 wsX0_run cX0_run 7 none s m args meth c) (hA : ∀ q : Nat, s.heap.size ≤ q → A q) (hK : CK G s) {k71 : St → Int32 → Int32 → Option (St)} (hk71 : ∀ (C : St) (x5 : Int32) (x6 : Int32), k71 C x5 x6 = some out → ∀ (H : Heap) (locs : List Loc) (hP : va_P G.1 vwCl (CW G q C) H) (hD : va_D A (CW G q C)) (hS : va_S A s.heap H locs), ∀ (ls : Array Slot), lv_has ls 7 [(0, .ref (q 4)), (1, .ref (q 1)), (2, .ref (q 2)), (5, .int x5), (6, .int x6)] → W p l e rmX0_run s m args below meth c H locs 0 0 (MQv G (CW G q) A s args below out) (F0 m 71 ls [])) (C : St) (x5 : Int32) (x6 : Int32) (h : pX0_run_71_b k71 C x5 x6 = some out) {H : Heap} {locs : List Loc} (hP : va_P G.1 vwCl (CW G q C) H) (hD : va_D A (CW G q C)) (hS : va_S A s.heap H locs) (ls : Array Slot) (hl : lv_has ls 7 [(0, .ref (q 4)), (1, .ref (q 1)), (2, .ref (q 2)), (5, .int x5), (6, .int x6)]) : W p l e rmX0_run s m args below meth c H locs 0 0 (MQv G (CW G q) A s args below out) (F0 m 71 ls []) := by
  obtain ⟨hx, hb, hr, hts, hown, hml, hlocks⟩ := id bx
  unfold pX0_run_71_b at h
  refine lv_iload hx hb dX0_run_71 (lv_at hl 4 rfl) ?_
  refine lv_aload_n hx hb dX0_run_73 rfl (lv_at hl 1 rfl) ?_
  refine va_getN (D := G.1) (ci := 4) (v := .int (C.1 3)) (C := RX5) (T := TX5) (N := 6) hx hb hts in_wsX0_run_X5 hown hK.1 hP 1 rfl rfl 5 (by decide) (hK.2.at 32 rfl) (fun _ h9 => h9) rfl dX0_run_74 ?_
  refine lv_icmp_ge (tgt := 99) hx hb dX0_run_77 (by decide) (fun c_77 => ?_) (fun c_77 => ?_)
  · have h := br_T h c_77
    exact MQv.end hx hb hr hlocks hP hS dX0_run_99 h
  · have h := br_F h c_77
    refine lv_iload hx hb dX0_run_80 (lv_at hl 3 rfl) ?_
    refine lv_if_eq (tgt := 99) hx hb dX0_run_82 (by decide) (fun c_82 => ?_) (fun c_82 => ?_)
    · have h := br_T h c_82
      exact MQv.end hx hb hr hlocks hP hS dX0_run_99 h
    · have h := br_F h c_82
      refine lv_aload_n hx hb dX0_run_85 rfl (lv_at hl 0 rfl) ?_
      refine lv_aload_n hx hb dX0_run_86 rfl (lv_at hl 1 rfl) ?_
      refine lv_aload_n hx hb dX0_run_87 rfl (lv_at hl 2 rfl) ?_
      obtain ⟨u_4, hu_4, h⟩ := bd_ex h
      refine wr_i (Wd := CW G q) (va_runV (As := [.ref (q 1), .ref (q 2)]) (rest := []) ⟨hx, hb, hml, hown, hts⟩ (kX0_learnLowest l G q C _ u_4 hu_4) (cwV 2 hts gX0_run_X0_learnLowest rfl rfl rfl (by decide +kernel) ⟨Nat.le_of_ble_eq_true rfl, Nat.le_of_ble_eq_true rfl⟩) (wrV hP hD hK 0 4 rfl rfl) rfl rfl hl.1 rfl (lv_room (Nat.le_of_ble_eq_true rfl)) dX0_run_88 ⟨Nat.zero_le _, Nat.zero_le _⟩) hD hS hA (fun _ => rfl) (fun H locs hP hD hS => ?_)
      refine lv_topi (fun v_5 ev_5 => ?_)
      have h := ltv_at h v_5 ev_5
      refine lv_istore (lv' := [(5, .int v_5), (0, .ref (q 4)), (1, .ref (q 1)), (2, .ref (q 2)), (6, .int x6)]) hx hb dX0_run_91 hl (by decide) rfl (fun ls hl => ?_)
      obtain ⟨v_6, ev_6, h⟩ := ltv_ex h
      refine lv_iinc (v := v_6) (lv' := [(6, .int v_6), (5, .int v_5), (0, .ref (q 4)), (1, .ref (q 1)), (2, .ref (q 2))]) hx hb dX0_run_93 hl (k := 4) rfl (by rw [ev_6]; rfl) (by decide) rfl (fun ls hl => ?_)
      refine lv_goto (tgt := 71) hx hb dX0_run_96 (by decide) ?_
      exact hk71 u_4.2 v_5 v_6 h _ _ hP hD hS _ (lv_sub hl [2, 3, 4, 1, 0] rfl)

theorem wX0_run_71 {p : Program} {l : Launch} {e : Env} {s : State} {m : MethodId} {args : Array Value} {below : List Frame} {meth : Method} {c : Code} {G : GT} {q : Nat → Nat} {A : Nat → Prop} {out : St} (bx : BX p RX0 wsX0_run cX0_run 7 none s m args meth c) (hA : ∀ q : Nat, s.heap.size ≤ q → A q) (hK : CK G s) :
    ∀ (n : Nat) (C : St) (x5 : Int32) (x6 : Int32), pX0_run_71 n C x5 x6 = some out → ∀ (H : Heap) (locs : List Loc) (hP : va_P G.1 vwCl (CW G q C) H) (hD : va_D A (CW G q C)) (hS : va_S A s.heap H locs), ∀ (ls : Array Slot), lv_has ls 7 [(0, .ref (q 4)), (1, .ref (q 1)), (2, .ref (q 2)), (5, .int x5), (6, .int x6)] → W p l e rmX0_run s m args below meth c H locs 0 0 (MQv G (CW G q) A s args below out) (F0 m 71 ls []) := by
  intro n
  induction n with
  | zero => intro _ _ _ h; cases h
  | succ n ih => exact fun a0 a1 a2 h _ _ hP hD hS ls hl => wX0_run_71_b bx hA hK ih a0 a1 a2 h hP hD hS ls hl

set_option maxHeartbeats 4000000 in
set_option maxRecDepth 100000 in
theorem wX0_run_50 {p : Program} {l : Launch} {e : Env} {s : State} {m : MethodId} {args : Array Value} {below : List Frame} {meth : Method} {c : Code} {G : GT} {q : Nat → Nat} {A : Nat → Prop} {out : St} (bx : BX p RX0 wsX0_run cX0_run 7 none s m args meth c) (hA : ∀ q : Nat, s.heap.size ≤ q → A q) (hK : CK G s) {k16 : St → Int32 → Int32 → Int32 → Option (St)} (hk16 : ∀ (C : St) (x3 : Int32) (x4 : Int32) (x5 : Int32), k16 C x3 x4 x5 = some out → ∀ (H : Heap) (locs : List Loc) (hP : va_P G.1 vwCl (CW G q C) H) (hD : va_D A (CW G q C)) (hS : va_S A s.heap H locs), ∀ (ls : Array Slot), lv_has ls 7 [(0, .ref (q 4)), (1, .ref (q 1)), (2, .ref (q 2)), (3, .int x3), (4, .int x4), (5, .int x5)] → W p l e rmX0_run s m args below meth c H locs 0 0 (MQv G (CW G q) A s args below out) (F0 m 16 ls [])) (C : St) (x3 : Int32) (x4 : Int32) (x5 : Int32) (t1 : Int32) (t2 : Int32) (h : pX0_run_50 k16 C x3 x4 x5 t1 t2 = some out) {H : Heap} {locs : List Loc} (hP : va_P G.1 vwCl (CW G q C) H) (hD : va_D A (CW G q C)) (hS : va_S A s.heap H locs) (ls : Array Slot) (hl : lv_has ls 7 [(0, .ref (q 4)), (1, .ref (q 1)), (2, .ref (q 2)), (3, .int x3), (4, .int x4), (5, .int x5)]) : W p l e rmX0_run s m args below meth c H locs 0 0 (MQv G (CW G q) A s args below out) (F0 m 50 ls [.int t2, .int t1, .ref (q 17)]) := by
  obtain ⟨hx, hb, hr, hts, hown, hml, hlocks⟩ := id bx
  unfold pX0_run_50 at h
  obtain ⟨g50, h⟩ := gd_ex h
  refine va_cast (D := G.1) hx hb hK.1 hP hD hS 17 1 rfl rfl g50 dX0_run_50 (fun H locs hP hD hS => ?_)
  have hP : va_P G.1 vwCl (CW G q (sA C 11 t1.toNatClampNeg (vp_nar .char t2))) H := hP
  have hD : va_D A (CW G q (sA C 11 t1.toNatClampNeg (vp_nar .char t2))) := hD
  obtain ⟨C_8, eC_8, h⟩ := ltv_ex h
  rw [← eC_8] at hP hD
  obtain ⟨v_9, ev_9, h⟩ := ltv_ex h
  refine lv_iinc (v := v_9) (lv' := [(5, .int v_9), (0, .ref (q 4)), (1, .ref (q 1)), (2, .ref (q 2)), (3, .int x3), (4, .int x4)]) hx hb dX0_run_51 hl (k := 5) rfl (by rw [ev_9]; rfl) (by decide) rfl (fun ls hl => ?_)
  refine lv_goto (tgt := 16) hx hb dX0_run_54 (by decide) ?_
  exact hk16 C_8 x3 x4 v_9 h _ _ hP hD hS _ (lv_sub hl [1, 2, 3, 4, 5, 0] rfl)

set_option maxHeartbeats 4000000 in
set_option maxRecDepth 100000 in
theorem wX0_run_16_b {p : Program} {l : Launch} {e : Env} {s : State} {m : MethodId} {args : Array Value} {below : List Frame} {meth : Method} {c : Code} {G : GT} {q : Nat → Nat} {A : Nat → Prop} {out : St} (bx : BX p RX0 wsX0_run cX0_run 7 none s m args meth c) (hA : ∀ q : Nat, s.heap.size ≤ q → A q) (hK : CK G s) {k16 : St → Int32 → Int32 → Int32 → Option (St)} (hk16 : ∀ (C : St) (x3 : Int32) (x4 : Int32) (x5 : Int32), k16 C x3 x4 x5 = some out → ∀ (H : Heap) (locs : List Loc) (hP : va_P G.1 vwCl (CW G q C) H) (hD : va_D A (CW G q C)) (hS : va_S A s.heap H locs), ∀ (ls : Array Slot), lv_has ls 7 [(0, .ref (q 4)), (1, .ref (q 1)), (2, .ref (q 2)), (3, .int x3), (4, .int x4), (5, .int x5)] → W p l e rmX0_run s m args below meth c H locs 0 0 (MQv G (CW G q) A s args below out) (F0 m 16 ls [])) (C : St) (x3 : Int32) (x4 : Int32) (x5 : Int32) (h : pX0_run_16_b k16 C x3 x4 x5 = some out) {H : Heap} {locs : List Loc} (hP : va_P G.1 vwCl (CW G q C) H) (hD : va_D A (CW G q C)) (hS : va_S A s.heap H locs) (ls : Array Slot) (hl : lv_has ls 7 [(0, .ref (q 4)), (1, .ref (q 1)), (2, .ref (q 2)), (3, .int x3), (4, .int x4), (5, .int x5)]) : W p l e rmX0_run s m args below meth c H locs 0 0 (MQv G (CW G q) A s args below out) (F0 m 16 ls []) := by
  obtain ⟨hx, hb, hr, hts, hown, hml, hlocks⟩ := id bx
  unfold pX0_run_16_b at h
  refine lv_iload hx hb dX0_run_16 (lv_at hl 5 rfl) ?_
  refine lv_aload_n hx hb dX0_run_18 rfl (lv_at hl 1 rfl) ?_
  refine va_getN (D := G.1) (ci := 4) (v := .int (C.1 3)) (C := RX5) (T := TX5) (N := 6) hx hb hts in_wsX0_run_X5 hown hK.1 hP 1 rfl rfl 5 (by decide) (hK.2.at 32 rfl) (fun _ h9 => h9) rfl dX0_run_19 ?_
  refine lv_icmp_ge (tgt := 57) hx hb dX0_run_22 (by decide) (fun c_22 => ?_) (fun c_22 => ?_)
  · have h := br_T h c_22
    refine lv_aload_n hx hb dX0_run_57 rfl (lv_at hl 0 rfl) ?_
    refine va_get (D := G.1) (ci := 0) (v := .ref (q 17)) (C := RX0) (T := TX0) (N := 4) hx hb hts in_wsX0_run_X0 hown hK.1 hP 4 rfl rfl 0 (by decide) (w_mem hts 3 rfl) (fun _ h9 => h9) rfl dX0_run_58 ?_
    refine lv_iconst (v := 0) hx hb dX0_run_61 (by decide) ?_
    refine lv_bipush (v := 111) hx hb dX0_run_62 (by decide) ?_
    obtain ⟨g64, h⟩ := gd_ex h
    refine va_cast (D := G.1) hx hb hK.1 hP hD hS 17 1 rfl rfl g64 dX0_run_64 (fun H locs hP hD hS => ?_)
    have hP : va_P G.1 vwCl (CW G q (sA C 11 (0 : Int32).toNatClampNeg (vp_nar .char 111))) H := hP
    have hD : va_D A (CW G q (sA C 11 (0 : Int32).toNatClampNeg (vp_nar .char 111))) := hD
    obtain ⟨C_3, eC_3, h⟩ := ltv_ex h
    rw [← eC_3] at hP hD
    refine lv_iconst (v := 1) hx hb dX0_run_65 (by decide) ?_
    refine lv_istore (lv' := [(5, .int 1), (0, .ref (q 4)), (1, .ref (q 1)), (2, .ref (q 2)), (3, .int x3), (4, .int x4)]) hx hb dX0_run_66 hl (by decide) rfl (fun ls hl => ?_)
    refine lv_iconst (v := 0) hx hb dX0_run_68 (by decide) ?_
    refine lv_istore (lv' := [(6, .int 0), (5, .int 1), (0, .ref (q 4)), (1, .ref (q 1)), (2, .ref (q 2)), (3, .int x3), (4, .int x4)]) hx hb dX0_run_69 hl (by decide) rfl (fun ls hl => ?_)
    exact wX0_run_71 bx hA hK FU C_3 1 0 h _ _ hP hD hS _ (lv_sub hl [2, 3, 4, 1, 0] rfl)
  · have h := br_F h c_22
    refine lv_aload_n hx hb dX0_run_25 rfl (lv_at hl 0 rfl) ?_
    refine va_get (D := G.1) (ci := 0) (v := .ref (q 17)) (C := RX0) (T := TX0) (N := 4) hx hb hts in_wsX0_run_X0 hown hK.1 hP 4 rfl rfl 0 (by decide) (w_mem hts 3 rfl) (fun _ h9 => h9) rfl dX0_run_26 ?_
    refine lv_iload hx hb dX0_run_29 (lv_at hl 5 rfl) ?_
    refine lv_iload_n hx hb dX0_run_31 rfl (lv_at hl 3 rfl) ?_
    refine lv_iload hx hb dX0_run_32 (lv_at hl 4 rfl) ?_
    refine lv_ior hx hb dX0_run_34 ?_
    refine lv_iload hx hb dX0_run_35 (lv_at hl 5 rfl) ?_
    obtain ⟨r_7, hr_7, h⟩ := bd_ex h
    refine ro_i (va_runSN (As := [.int (x3 ||| x4), .int x5]) (rest := [.int x5, .ref (q 17)]) ⟨hx, hb, hml, hown, hts⟩ (kX6_has l G q C (x3 ||| x4) x5 r_7 hr_7) ⟨va_cnB 2 hts gX0_run_X6_has_n31 rfl rfl rfl (hK.2.nw 15 rfl) (w_mem hts 5 rfl) (by decide +kernel) ⟨Nat.le_of_ble_eq_true rfl, Nat.le_of_ble_eq_true rfl⟩, (w_mem hts 4 rfl), trivial⟩ (roS hP hK) rfl rfl hl.1 rfl (lv_room (Nat.le_of_ble_eq_true rfl)) dX0_run_37 ⟨Nat.zero_le _, Nat.zero_le _⟩) ?_
    refine lv_if_eq (tgt := 48) hx hb dX0_run_40 (by decide) (fun c_40 => ?_) (fun c_40 => ?_)
    · have h := br_T h c_40
      refine lv_bipush (v := 32) hx hb dX0_run_48 (by decide) ?_
      exact wX0_run_50 bx hA hK hk16 C x3 x4 x5 x5 32 h hP hD hS _ (lv_sub hl [0, 1, 2, 3, 4, 5] rfl)
    · have h := br_F h c_40
      refine lv_bipush (v := 100) hx hb dX0_run_43 (by decide) ?_
      refine lv_goto (tgt := 50) hx hb dX0_run_45 (by decide) ?_
      exact wX0_run_50 bx hA hK hk16 C x3 x4 x5 x5 100 h hP hD hS _ (lv_sub hl [0, 1, 2, 3, 4, 5] rfl)

theorem wX0_run_16 {p : Program} {l : Launch} {e : Env} {s : State} {m : MethodId} {args : Array Value} {below : List Frame} {meth : Method} {c : Code} {G : GT} {q : Nat → Nat} {A : Nat → Prop} {out : St} (bx : BX p RX0 wsX0_run cX0_run 7 none s m args meth c) (hA : ∀ q : Nat, s.heap.size ≤ q → A q) (hK : CK G s) :
    ∀ (n : Nat) (C : St) (x3 : Int32) (x4 : Int32) (x5 : Int32), pX0_run_16 n C x3 x4 x5 = some out → ∀ (H : Heap) (locs : List Loc) (hP : va_P G.1 vwCl (CW G q C) H) (hD : va_D A (CW G q C)) (hS : va_S A s.heap H locs), ∀ (ls : Array Slot), lv_has ls 7 [(0, .ref (q 4)), (1, .ref (q 1)), (2, .ref (q 2)), (3, .int x3), (4, .int x4), (5, .int x5)] → W p l e rmX0_run s m args below meth c H locs 0 0 (MQv G (CW G q) A s args below out) (F0 m 16 ls []) := by
  intro n
  induction n with
  | zero => intro _ _ _ _ h; cases h
  | succ n ih => exact fun a0 a1 a2 a3 h _ _ hP hD hS ls hl => wX0_run_16_b bx hA hK ih a0 a1 a2 a3 h hP hD hS ls hl

set_option maxHeartbeats 4000000 in
set_option maxRecDepth 100000 in
theorem kX0_run (l : Launch) (G : GT) (q : Nat → Nat) (C : St) (sz : Nat) (x3 : Int32) (x4 : Int32) (r : St) (h : pX0_run C x3 x4 = some r) : Met l yX0_run wsX0_run rmX0_run (va_Pc [.ref (q 4), .ref (q 1), .ref (q 2), .int x3, .int x4] (wrP G (CW G q C) sz)) (va_Qv (fun u => u = r) (fun u t => va_P G.1 vwCl (CW G q u) t.heap) (va_A (CW G q C) sz)) 0 0 (va_A (CW G q C) sz) := by
  refine Met.ofW (cc := cX0_run) (maxL := 7) (ret := none) (by decide) rfl ?_
  intro p e s m args below meth c s₁ B hml hv
  obtain ⟨rfl, hsz, hP, hK, hD0⟩ := hv
  have bx := bx_of B hml
  subst hsz
  have hD := hD0.self (sz := s.heap.size)
  generalize hAe : va_A (CW G q C) s.heap.size = A at hD ⊢
  have hA : ∀ q : Nat, s.heap.size ≤ q → A q := fun q h => by rw [← hAe]; exact Or.inr h
  have hS : va_S A s.heap s.heap [] := va_S.rf
  obtain ⟨hx, hb, hr, hts, hown, hml, hlocks⟩ := id bx
  have hl := lv_entry ([.ref (q 4), .ref (q 1), .ref (q 2), .int x3, .int x4]) (n := 7) (Nat.le_of_ble_eq_true rfl)
  rw [lg_entry_eq]
  generalize (lg_sl ([.ref (q 4), .ref (q 1), .ref (q 2), .int x3, .int x4]) ++ List.replicate (7 - (lg_sl ([.ref (q 4), .ref (q 1), .ref (q 2), .int x3, .int x4])).length) Slot.unset).toArray = ls at hl ⊢
  have hl : lv_has ls 7 [(0, .ref (q 4)), (1, .ref (q 1)), (2, .ref (q 2)), (3, .int x3), (4, .int x4)] := hl
  show W p l e rmX0_run s m _ below meth c s.heap [] 0 0 (MQv G (CW G q) A s _ below r) (F0 m 0 ls [])
  unfold pX0_run at h
  refine lv_aload_n hx hb dX0_run_0 rfl (lv_at hl 0 rfl) ?_
  refine lv_iconst (v := 1) hx hb dX0_run_1 (by decide) ?_
  refine lv_iload_n hx hb dX0_run_2 rfl (lv_at hl 3 rfl) ?_
  refine lv_ior hx hb dX0_run_3 ?_
  refine va_put (D := G.1) (ci := 0) (v := .int (1 ||| x3)) (ty := .int) (C := RX0) (T := TX0) (N := 4) hx hb hts in_wsX0_run_X0 tyX0 tyX0_ok nmX0 hown hK.1 hP hD hS 4 rfl rfl 2 (by decide) (w_mem hts 1 rfl) (fun _ h9 => h9) rfl (by decide +kernel) rfl rfl (Nat.le_of_ble_eq_true rfl) dX0_run_4 (fun H locs hP hD hS => ?_)
  have hP : va_P G.1 vwCl (CW G q (sS C 7 (1 ||| x3))) H := hP
  have hD : va_D A (CW G q (sS C 7 (1 ||| x3))) := hD
  obtain ⟨C_1, eC_1, h⟩ := ltv_ex h
  rw [← eC_1] at hP hD
  refine lv_aload_n hx hb dX0_run_7 rfl (lv_at hl 0 rfl) ?_
  refine lv_iload hx hb dX0_run_8 (lv_at hl 4 rfl) ?_
  refine va_put (D := G.1) (ci := 0) (v := .int x4) (ty := .int) (C := RX0) (T := TX0) (N := 4) hx hb hts in_wsX0_run_X0 tyX0 tyX0_ok nmX0 hown hK.1 hP hD hS 4 rfl rfl 3 (by decide) (w_mem hts 2 rfl) (fun _ h9 => h9) rfl (by decide +kernel) rfl rfl (Nat.le_of_ble_eq_true rfl) dX0_run_10 (fun H locs hP hD hS => ?_)
  have hP : va_P G.1 vwCl (CW G q (sS C_1 8 x4)) H := hP
  have hD : va_D A (CW G q (sS C_1 8 x4)) := hD
  obtain ⟨C_2, eC_2, h⟩ := ltv_ex h
  rw [← eC_2] at hP hD
  refine lv_iconst (v := 0) hx hb dX0_run_13 (by decide) ?_
  refine lv_istore (lv' := [(5, .int 0), (0, .ref (q 4)), (1, .ref (q 1)), (2, .ref (q 2)), (3, .int x3), (4, .int x4)]) hx hb dX0_run_14 hl (by decide) rfl (fun ls hl => ?_)
  exact wX0_run_16 bx hA hK FU C_2 x3 x4 0 h _ _ hP hD hS _ (lv_sub hl [1, 2, 3, 4, 5, 0] rfl)
