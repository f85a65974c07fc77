def rmX1_append : Room := { frames := 0, cells := 0, slots := 0, locals := 0 }

theorem in_wsX1_append_X1 : ∀ w ∈ u_ws RX1 TX1 2, w ∈ wsX1_append := by decide +kernel

set_option maxHeartbeats 4000000 in
set_option maxRecDepth 100000 in
theorem kX1_append (l : Launch) (G : GT) (q : Nat → Nat) (C : St) (sz : Nat) (x1 : Int32) (r : St) (h : pX1_append C x1 = some r) : Met l yX1_append wsX1_append rmX1_append (va_Pc [.ref (q 5), .int x1] (wrP G (CW G q C) sz)) (va_Qv (fun u => u = r) (fun u t => va_P G.1 vwCl (CW G q u) t.heap) (va_A (CW G q C) sz)) 0 0 (va_A (CW G q C) sz) := by
  refine Met.ofW (cc := cX1_append) (maxL := 2) (ret := none) (by decide) rfl ?_
  intro p e s m args below meth c s₁ B hml hv
  obtain ⟨rfl, hsz, hP, hK, hD0⟩ := hv
  have bx := bx_of B hml
  subst hsz
  have hD := hD0.self (sz := s.heap.size)
  generalize hAe : va_A (CW G q C) s.heap.size = A at hD ⊢
  have hA : ∀ q : Nat, s.heap.size ≤ q → A q := fun q h => by rw [← hAe]; exact Or.inr h
  have hS : va_S A s.heap s.heap [] := va_S.rf
  obtain ⟨hx, hb, hr, hts, hown, hml, hlocks⟩ := id bx
  have hl := lv_entry ([.ref (q 5), .int x1]) (n := 2) (Nat.le_of_ble_eq_true rfl)
  rw [lg_entry_eq]
  generalize (lg_sl ([.ref (q 5), .int x1]) ++ List.replicate (2 - (lg_sl ([.ref (q 5), .int x1])).length) Slot.unset).toArray = ls at hl ⊢
  have hl : lv_has ls 2 [(0, .ref (q 5)), (1, .int x1)] := hl
  show W p l e rmX1_append s m _ below meth c s.heap [] 0 0 (MQv G (CW G q) A s _ below r) (F0 m 0 ls [])
  unfold pX1_append at h
  refine lv_aload_n hx hb dX1_append_0 rfl (lv_at hl 0 rfl) ?_
  refine va_get (D := G.1) (ci := 3) (v := .int (C.1 9)) (C := RX1) (T := TX1) (N := 2) hx hb hts in_wsX1_append_X1 hown hK.1 hP 5 rfl rfl 1 (by decide) (w_mem hts 1 rfl) (fun _ h9 => h9) rfl dX1_append_1 ?_
  refine lv_bipush (v := 64) hx hb dX1_append_4 (by decide) ?_
  refine lv_icmp_ge (tgt := 29) hx hb dX1_append_6 (by decide) (fun c_6 => ?_) (fun c_6 => ?_)
  · have h := br_T h c_6
    exact MQv.end hx hb hr hlocks hP hS dX1_append_29 h
  · have h := br_F h c_6
    refine lv_aload_n hx hb dX1_append_9 rfl (lv_at hl 0 rfl) ?_
    refine va_get (D := G.1) (ci := 3) (v := .ref (q 19)) (C := RX1) (T := TX1) (N := 2) hx hb hts in_wsX1_append_X1 hown hK.1 hP 5 rfl rfl 0 (by decide) (w_mem hts 2 rfl) (fun _ h9 => h9) rfl dX1_append_10 ?_
    refine lv_aload_n hx hb dX1_append_13 rfl (lv_at hl 0 rfl) ?_
    refine va_get (D := G.1) (ci := 3) (v := .int (C.1 9)) (C := RX1) (T := TX1) (N := 2) hx hb hts in_wsX1_append_X1 hown hK.1 hP 5 rfl rfl 1 (by decide) (w_mem hts 1 rfl) (fun _ h9 => h9) rfl dX1_append_14 ?_
    refine lv_iload_n hx hb dX1_append_17 rfl (lv_at hl 1 rfl) ?_
    obtain ⟨g18, h⟩ := gd_ex h
    refine va_cast (D := G.1) hx hb hK.1 hP hD hS 19 1 rfl rfl g18 dX1_append_18 (fun H locs hP hD hS => ?_)
    have hP : va_P G.1 vwCl (CW G q (sA C 13 (C.1 9).toNatClampNeg (vp_nar .char x1))) H := hP
    have hD : va_D A (CW G q (sA C 13 (C.1 9).toNatClampNeg (vp_nar .char x1))) := hD
    obtain ⟨C_1, eC_1, h⟩ := ltv_ex h
    rw [← eC_1] at hP hD
    refine lv_aload_n hx hb dX1_append_19 rfl (lv_at hl 0 rfl) ?_
    refine lv_dup hx hb dX1_append_20 rfl ?_
    refine va_get (D := G.1) (ci := 3) (v := .int (C_1.1 9)) (C := RX1) (T := TX1) (N := 2) hx hb hts in_wsX1_append_X1 hown hK.1 hP 5 rfl rfl 1 (by decide) (w_mem hts 1 rfl) (fun _ h9 => h9) rfl dX1_append_21 ?_
    refine lv_iconst (v := 1) hx hb dX1_append_24 (by decide) ?_
    refine lv_iadd hx hb dX1_append_25 ?_
    refine va_put (D := G.1) (ci := 3) (v := .int ((C_1.1 9) + 1)) (ty := .int) (C := RX1) (T := TX1) (N := 2) hx hb hts in_wsX1_append_X1 tyX1 tyX1_ok nmX1 hown hK.1 hP hD hS 5 rfl rfl 1 (by decide) (w_mem hts 1 rfl) (fun _ h9 => h9) rfl (by decide +kernel) rfl rfl (Nat.le_of_ble_eq_true rfl) dX1_append_26 (fun H locs hP hD hS => ?_)
    have hP : va_P G.1 vwCl (CW G q (sS C_1 9 ((C_1.1 9) + 1))) H := hP
    have hD : va_D A (CW G q (sS C_1 9 ((C_1.1 9) + 1))) := hD
    obtain ⟨C_2, eC_2, h⟩ := ltv_ex h
    rw [← eC_2] at hP hD
    exact MQv.end hx hb hr hlocks hP hS dX1_append_29 h

def rmX1_write : Room := { frames := 2, cells := 0, slots := 0, locals := 42 }

theorem in_wsX1_write_X1 : ∀ w ∈ u_ws RX1 TX1 2, w ∈ wsX1_write := by decide +kernel

theorem in_wsX1_write_X0 : ∀ w ∈ u_ws RX0 TX0 4, w ∈ wsX1_write := by decide +kernel

set_option maxHeartbeats 4000000 in
set_option maxRecDepth 100000 in
theorem wX1_write_101 {p : Program} {l : Launch} {e : Env} {s : State} {m : MethodId} {args : Array Value} {below : List Frame} {meth : Method} {c : Code} {G : GT} {q : Nat → Nat} {A : Nat → Prop} {out : St} (bx : BX p RX1 wsX1_write cX1_write 4 none s m args meth c) (hA : ∀ q : Nat, s.heap.size ≤ q → A q) (hK : CK G s) {k7 : St → Int32 → Int32 → Option (St)} (hk7 : ∀ (C : St) (x1 : Int32) (x3 : Int32), k7 C x1 x3 = some out → ∀ (H : Heap) (locs : List Loc) (hP : va_P G.1 vwCl (CW G q C) H) (hD : va_D A (CW G q C)) (hS : va_S A s.heap H locs), ∀ (ls : Array Slot), lv_has ls 4 [(0, .ref (q 5)), (1, .int x1), (2, .ref (q 4)), (3, .int x3)] → W p l e rmX1_write s m args below meth c H locs 0 0 (MQv G (CW G q) A s args below out) (F0 m 7 ls [])) (C : St) (x1 : Int32) (x3 : Int32) (h : pX1_write_101 k7 C x1 x3 = some out) {H : Heap} {locs : List Loc} (hP : va_P G.1 vwCl (CW G q C) H) (hD : va_D A (CW G q C)) (hS : va_S A s.heap H locs) (ls : Array Slot) (hl : lv_has ls 4 [(0, .ref (q 5)), (1, .int x1), (2, .ref (q 4)), (3, .int x3)]) : W p l e rmX1_write s m args below meth c H locs 0 0 (MQv G (CW G q) A s args below out) (F0 m 101 ls []) := by
  obtain ⟨hx, hb, hr, hts, hown, hml, hlocks⟩ := id bx
  unfold pX1_write_101 at h
  obtain ⟨v_5, ev_5, h⟩ := ltv_ex h
  refine lv_iinc (v := v_5) (lv' := [(3, .int v_5), (0, .ref (q 5)), (1, .int x1), (2, .ref (q 4))]) hx hb dX1_write_101 hl (k := 3) rfl (by rw [ev_5]; rfl) (by decide) rfl (fun ls hl => ?_)
  refine lv_goto (tgt := 7) hx hb dX1_write_104 (by decide) ?_
  exact hk7 C x1 v_5 h _ _ hP hD hS _ (lv_sub hl [1, 2, 3, 0] rfl)

set_option maxHeartbeats 4000000 in
set_option maxRecDepth 100000 in
theorem wX1_write_89 {p : Program} {l : Launch} {e : Env} {s : State} {m : MethodId} {args : Array Value} {below : List Frame} {meth : Method} {c : Code} {G : GT} {q : Nat → Nat} {A : Nat → Prop} {out : St} (bx : BX p RX1 wsX1_write cX1_write 4 none s m args meth c) (hA : ∀ q : Nat, s.heap.size ≤ q → A q) (hK : CK G s) {k7 : St → Int32 → Int32 → Option (St)} (hk7 : ∀ (C : St) (x1 : Int32) (x3 : Int32), k7 C x1 x3 = some out → ∀ (H : Heap) (locs : List Loc) (hP : va_P G.1 vwCl (CW G q C) H) (hD : va_D A (CW G q C)) (hS : va_S A s.heap H locs), ∀ (ls : Array Slot), lv_has ls 4 [(0, .ref (q 5)), (1, .int x1), (2, .ref (q 4)), (3, .int x3)] → W p l e rmX1_write s m args below meth c H locs 0 0 (MQv G (CW G q) A s args below out) (F0 m 7 ls [])) (C : St) (x1 : Int32) (x3 : Int32) (t1 : Int32) (h : pX1_write_89 k7 C x1 x3 t1 = some out) {H : Heap} {locs : List Loc} (hP : va_P G.1 vwCl (CW G q C) H) (hD : va_D A (CW G q C)) (hS : va_S A s.heap H locs) (ls : Array Slot) (hl : lv_has ls 4 [(0, .ref (q 5)), (1, .int x1), (2, .ref (q 4)), (3, .int x3)]) : W p l e rmX1_write s m args below meth c H locs 0 0 (MQv G (CW G q) A s args below out) (F0 m 89 ls [.int t1, .ref (q 5)]) := by
  obtain ⟨hx, hb, hr, hts, hown, hml, hlocks⟩ := id bx
  unfold pX1_write_89 at h
  obtain ⟨u_8, hu_8, h⟩ := bd_ex h
  refine wr_v (Wd := CW G q) (va_runV (As := [.int t1]) (rest := []) ⟨hx, hb, hml, hown, hts⟩ (kX1_append l G q C _ t1 u_8 hu_8) (cwV 1 hts gX1_write_X1_append rfl rfl rfl (by decide +kernel) ⟨Nat.le_of_ble_eq_true rfl, Nat.le_of_ble_eq_true rfl⟩) (wrV hP hD hK 3 5 rfl rfl) rfl rfl hl.1 rfl (lv_room (Nat.le_of_ble_eq_true rfl)) dX1_write_89 ⟨Nat.zero_le _, Nat.zero_le _⟩) hD hS hA (fun _ => rfl) (fun H locs hP hD hS => ?_)
  refine lv_goto (tgt := 101) hx hb dX1_write_92 (by decide) ?_
  exact wX1_write_101 bx hA hK hk7 u_8 x1 x3 h hP hD hS _ (lv_sub hl [0, 1, 2, 3] rfl)

set_option maxHeartbeats 4000000 in
set_option maxRecDepth 100000 in
theorem wX1_write_40 {p : Program} {l : Launch} {e : Env} {s : State} {m : MethodId} {args : Array Value} {below : List Frame} {meth : Method} {c : Code} {G : GT} {q : Nat → Nat} {A : Nat → Prop} {out : St} (bx : BX p RX1 wsX1_write cX1_write 4 none s m args meth c) (hA : ∀ q : Nat, s.heap.size ≤ q → A q) (hK : CK G s) {k7 : St → Int32 → Int32 → Option (St)} (hk7 : ∀ (C : St) (x1 : Int32) (x3 : Int32), k7 C x1 x3 = some out → ∀ (H : Heap) (locs : List Loc) (hP : va_P G.1 vwCl (CW G q C) H) (hD : va_D A (CW G q C)) (hS : va_S A s.heap H locs), ∀ (ls : Array Slot), lv_has ls 4 [(0, .ref (q 5)), (1, .int x1), (2, .ref (q 4)), (3, .int x3)] → W p l e rmX1_write s m args below meth c H locs 0 0 (MQv G (CW G q) A s args below out) (F0 m 7 ls [])) (C : St) (x1 : Int32) (x3 : Int32) (h : pX1_write_40 k7 C x1 x3 = some out) {H : Heap} {locs : List Loc} (hP : va_P G.1 vwCl (CW G q C) H) (hD : va_D A (CW G q C)) (hS : va_S A s.heap H locs) (ls : Array Slot) (hl : lv_has ls 4 [(0, .ref (q 5)), (1, .int x1), (2, .ref (q 4)), (3, .int x3)]) : W p l e rmX1_write s m args below meth c H locs 0 0 (MQv G (CW G q) A s args below out) (F0 m 40 ls []) := by
  obtain ⟨hx, hb, hr, hts, hown, hml, hlocks⟩ := id bx
  unfold pX1_write_40 at h
  refine lv_aload_n hx hb dX1_write_40 rfl (lv_at hl 0 rfl) ?_
  refine lv_bipush (v := 48) hx hb dX1_write_41 (by decide) ?_
  refine lv_iload_n hx hb dX1_write_43 rfl (lv_at hl 3 rfl) ?_
  refine lv_bipush (v := 10) hx hb dX1_write_44 (by decide) ?_
  refine lv_irem hx hb dX1_write_46 (by decide) ?_
  refine lv_iadd hx hb dX1_write_47 ?_
  refine lv_i2c (v := ((48 + (x3 - x3 / 10 * 10)).toUInt32 % 65536).toInt32) hx hb dX1_write_48 rfl ?_
  obtain ⟨u_2, hu_2, h⟩ := bd_ex h
  refine wr_v (Wd := CW G q) (va_runV (As := [.int (((48 + (x3 - x3 / 10 * 10)).toUInt32 % 65536).toInt32)]) (rest := []) ⟨hx, hb, hml, hown, hts⟩ (kX1_append l G q C _ (((48 + (x3 - x3 / 10 * 10)).toUInt32 % 65536).toInt32) u_2 hu_2) (cwV 1 hts gX1_write_X1_append rfl rfl rfl (by decide +kernel) ⟨Nat.le_of_ble_eq_true rfl, Nat.le_of_ble_eq_true rfl⟩) (wrV hP hD hK 3 5 rfl rfl) rfl rfl hl.1 rfl (lv_room (Nat.le_of_ble_eq_true rfl)) dX1_write_49 ⟨Nat.zero_le _, Nat.zero_le _⟩) hD hS hA (fun _ => rfl) (fun H locs hP hD hS => ?_)
  refine lv_aload_n hx hb dX1_write_52 rfl (lv_at hl 2 rfl) ?_
  refine lv_iload_n hx hb dX1_write_53 rfl (lv_at hl 3 rfl) ?_
  obtain ⟨r_3, hr_3, h⟩ := bd_ex h
  refine ro_i (va_runVN (As := [.int x3]) (rest := []) ⟨hx, hb, hml, hown, hts⟩ (kX0_knows l G q u_2 x3 r_3 hr_3) ⟨va_cnB 1 hts gX1_write_X0_knows_n21 rfl rfl rfl (hK.2.nw 23 rfl) (w_mem hts 9 rfl) (by decide +kernel) ⟨Nat.le_of_ble_eq_true rfl, Nat.le_of_ble_eq_true rfl⟩, (w_mem hts 8 rfl), (w_mem hts 10 rfl)⟩ (roV hP hK 2 4 rfl rfl) rfl rfl hl.1 rfl (lv_room (Nat.le_of_ble_eq_true rfl)) dX1_write_54 ⟨Nat.zero_le _, Nat.zero_le _⟩) ?_
  refine lv_if_eq (tgt := 95) hx hb dX1_write_57 (by decide) (fun c_57 => ?_) (fun c_57 => ?_)
  · have h := br_T h c_57
    refine lv_aload_n hx hb dX1_write_95 rfl (lv_at hl 0 rfl) ?_
    refine lv_bipush (v := 63) hx hb dX1_write_96 (by decide) ?_
    obtain ⟨u_4, hu_4, h⟩ := bd_ex h
    refine wr_v (Wd := CW G q) (va_runV (As := [.int 63]) (rest := []) ⟨hx, hb, hml, hown, hts⟩ (kX1_append l G q u_2 _ 63 u_4 hu_4) (cwV 1 hts gX1_write_X1_append rfl rfl rfl (by decide +kernel) ⟨Nat.le_of_ble_eq_true rfl, Nat.le_of_ble_eq_true rfl⟩) (wrV hP hD hK 3 5 rfl rfl) rfl rfl hl.1 rfl (lv_room (Nat.le_of_ble_eq_true rfl)) dX1_write_98 ⟨Nat.zero_le _, Nat.zero_le _⟩) hD hS hA (fun _ => rfl) (fun H locs hP hD hS => ?_)
    exact wX1_write_101 bx hA hK hk7 u_4 x1 x3 h hP hD hS _ (lv_sub hl [0, 1, 2, 3] rfl)
  · have h := br_F h c_57
    refine lv_aload_n hx hb dX1_write_60 rfl (lv_at hl 0 rfl) ?_
    refine lv_aload_n hx hb dX1_write_61 rfl (lv_at hl 2 rfl) ?_
    refine va_getN (D := G.1) (ci := 2) (v := .ref (q 17)) (C := RX0) (T := TX0) (N := 4) hx hb hts in_wsX1_write_X0 hown hK.1 hP 4 rfl rfl 0 (by decide) (hK.2.at 54 rfl) (fun _ h9 => h9) rfl dX1_write_62 ?_
    refine lv_iload_n hx hb dX1_write_65 rfl (lv_at hl 3 rfl) ?_
    obtain ⟨g66, h⟩ := gd_ex h
    refine va_cald (D := G.1) hx hb hK.1 hP 17 1 rfl rfl g66 dX1_write_66 ?_
    obtain ⟨u_6, hu_6, h⟩ := bd_ex h
    refine wr_v (Wd := CW G q) (va_runV (As := [.int (u_2.2 11 x3.toNatClampNeg)]) (rest := []) ⟨hx, hb, hml, hown, hts⟩ (kX1_append l G q u_2 _ (u_2.2 11 x3.toNatClampNeg) u_6 hu_6) (cwV 1 hts gX1_write_X1_append rfl rfl rfl (by decide +kernel) ⟨Nat.le_of_ble_eq_true rfl, Nat.le_of_ble_eq_true rfl⟩) (wrV hP hD hK 3 5 rfl rfl) rfl rfl hl.1 rfl (lv_room (Nat.le_of_ble_eq_true rfl)) dX1_write_67 ⟨Nat.zero_le _, Nat.zero_le _⟩) hD hS hA (fun _ => rfl) (fun H locs hP hD hS => ?_)
    refine lv_aload_n hx hb dX1_write_70 rfl (lv_at hl 0 rfl) ?_
    refine lv_aload_n hx hb dX1_write_71 rfl (lv_at hl 2 rfl) ?_
    refine va_getN (D := G.1) (ci := 2) (v := .int (u_6.1 7)) (C := RX0) (T := TX0) (N := 4) hx hb hts in_wsX1_write_X0 hown hK.1 hP 4 rfl rfl 2 (by decide) (hK.2.at 55 rfl) (fun _ h9 => h9) rfl dX1_write_72 ?_
    refine lv_iload_n hx hb dX1_write_75 rfl (lv_at hl 3 rfl) ?_
    obtain ⟨r_7, hr_7, h⟩ := bd_ex h
    refine ro_i (va_runSN (As := [.int (u_6.1 7), .int x3]) (rest := [.ref (q 5)]) ⟨hx, hb, hml, hown, hts⟩ (kX6_has l G q u_6 (u_6.1 7) x3 r_7 hr_7) ⟨va_cnB 2 hts gX1_write_X6_has_n33 rfl rfl rfl (hK.2.nw 24 rfl) (w_mem hts 15 rfl) (by decide +kernel) ⟨Nat.le_of_ble_eq_true rfl, Nat.le_of_ble_eq_true rfl⟩, (w_mem hts 14 rfl), trivial⟩ (roS hP hK) rfl rfl hl.1 rfl (lv_room (Nat.le_of_ble_eq_true rfl)) dX1_write_76 ⟨Nat.zero_le _, Nat.zero_le _⟩) ?_
    refine lv_if_eq (tgt := 87) hx hb dX1_write_79 (by decide) (fun c_79 => ?_) (fun c_79 => ?_)
    · have h := br_T h c_79
      refine lv_bipush (v := 45) hx hb dX1_write_87 (by decide) ?_
      exact wX1_write_89 bx hA hK hk7 u_6 x1 x3 45 h hP hD hS _ (lv_sub hl [0, 1, 2, 3] rfl)
    · have h := br_F h c_79
      refine lv_bipush (v := 43) hx hb dX1_write_82 (by decide) ?_
      refine lv_goto (tgt := 89) hx hb dX1_write_84 (by decide) ?_
      exact wX1_write_89 bx hA hK hk7 u_6 x1 x3 43 h hP hD hS _ (lv_sub hl [0, 1, 2, 3] rfl)

set_option maxHeartbeats 4000000 in
set_option maxRecDepth 100000 in
theorem wX1_write_22 {p : Program} {l : Launch} {e : Env} {s : State} {m : MethodId} {args : Array Value} {below : List Frame} {meth : Method} {c : Code} {G : GT} {q : Nat → Nat} {A : Nat → Prop} {out : St} (bx : BX p RX1 wsX1_write cX1_write 4 none s m args meth c) (hA : ∀ q : Nat, s.heap.size ≤ q → A q) (hK : CK G s) {k7 : St → Int32 → Int32 → Option (St)} (hk7 : ∀ (C : St) (x1 : Int32) (x3 : Int32), k7 C x1 x3 = some out → ∀ (H : Heap) (locs : List Loc) (hP : va_P G.1 vwCl (CW G q C) H) (hD : va_D A (CW G q C)) (hS : va_S A s.heap H locs), ∀ (ls : Array Slot), lv_has ls 4 [(0, .ref (q 5)), (1, .int x1), (2, .ref (q 4)), (3, .int x3)] → W p l e rmX1_write s m args below meth c H locs 0 0 (MQv G (CW G q) A s args below out) (F0 m 7 ls [])) (C : St) (x1 : Int32) (x3 : Int32) (h : pX1_write_22 k7 C x1 x3 = some out) {H : Heap} {locs : List Loc} (hP : va_P G.1 vwCl (CW G q C) H) (hD : va_D A (CW G q C)) (hS : va_S A s.heap H locs) (ls : Array Slot) (hl : lv_has ls 4 [(0, .ref (q 5)), (1, .int x1), (2, .ref (q 4)), (3, .int x3)]) : W p l e rmX1_write s m args below meth c H locs 0 0 (MQv G (CW G q) A s args below out) (F0 m 22 ls []) := by
  obtain ⟨hx, hb, hr, hts, hown, hml, hlocks⟩ := id bx
  unfold pX1_write_22 at h
  refine lv_iload_n hx hb dX1_write_22 rfl (lv_at hl 3 rfl) ?_
  refine lv_bipush (v := 10) hx hb dX1_write_23 (by decide) ?_
  refine lv_icmp_lt (tgt := 40) hx hb dX1_write_25 (by decide) (fun c_25 => ?_) (fun c_25 => ?_)
  · have h := br_T h c_25
    exact wX1_write_40 bx hA hK hk7 C x1 x3 h hP hD hS _ (lv_sub hl [0, 1, 2, 3] rfl)
  · have h := br_F h c_25
    refine lv_aload_n hx hb dX1_write_28 rfl (lv_at hl 0 rfl) ?_
    refine lv_bipush (v := 48) hx hb dX1_write_29 (by decide) ?_
    refine lv_iload_n hx hb dX1_write_31 rfl (lv_at hl 3 rfl) ?_
    refine lv_bipush (v := 10) hx hb dX1_write_32 (by decide) ?_
    refine lv_idiv hx hb dX1_write_34 (by decide) ?_
    refine lv_iadd hx hb dX1_write_35 ?_
    refine lv_i2c (v := ((48 + (x3 / 10)).toUInt32 % 65536).toInt32) hx hb dX1_write_36 rfl ?_
    obtain ⟨u_9, hu_9, h⟩ := bd_ex h
    refine wr_v (Wd := CW G q) (va_runV (As := [.int (((48 + (x3 / 10)).toUInt32 % 65536).toInt32)]) (rest := []) ⟨hx, hb, hml, hown, hts⟩ (kX1_append l G q C _ (((48 + (x3 / 10)).toUInt32 % 65536).toInt32) u_9 hu_9) (cwV 1 hts gX1_write_X1_append rfl rfl rfl (by decide +kernel) ⟨Nat.le_of_ble_eq_true rfl, Nat.le_of_ble_eq_true rfl⟩) (wrV hP hD hK 3 5 rfl rfl) rfl rfl hl.1 rfl (lv_room (Nat.le_of_ble_eq_true rfl)) dX1_write_37 ⟨Nat.zero_le _, Nat.zero_le _⟩) hD hS hA (fun _ => rfl) (fun H locs hP hD hS => ?_)
    exact wX1_write_40 bx hA hK hk7 u_9 x1 x3 h hP hD hS _ (lv_sub hl [0, 1, 2, 3] rfl)

set_option maxHeartbeats 4000000 in
set_option maxRecDepth 100000 in
theorem wX1_write_7_b {p : Program} {l : Launch} {e : Env} {s : State} {m : MethodId} {args : Array Value} {below : List Frame} {meth : Method} {c : Code} {G : GT} {q : Nat → Nat} {A : Nat → Prop} {out : St} (bx : BX p RX1 wsX1_write cX1_write 4 none s m args meth c) (hA : ∀ q : Nat, s.heap.size ≤ q → A q) (hK : CK G s) {k7 : St → Int32 → Int32 → Option (St)} (hk7 : ∀ (C : St) (x1 : Int32) (x3 : Int32), k7 C x1 x3 = some out → ∀ (H : Heap) (locs : List Loc) (hP : va_P G.1 vwCl (CW G q C) H) (hD : va_D A (CW G q C)) (hS : va_S A s.heap H locs), ∀ (ls : Array Slot), lv_has ls 4 [(0, .ref (q 5)), (1, .int x1), (2, .ref (q 4)), (3, .int x3)] → W p l e rmX1_write s m args below meth c H locs 0 0 (MQv G (CW G q) A s args below out) (F0 m 7 ls [])) (C : St) (x1 : Int32) (x3 : Int32) (h : pX1_write_7_b k7 C x1 x3 = some out) {H : Heap} {locs : List Loc} (hP : va_P G.1 vwCl (CW G q C) H) (hD : va_D A (CW G q C)) (hS : va_S A s.heap H locs) (ls : Array Slot) (hl : lv_has ls 4 [(0, .ref (q 5)), (1, .int x1), (2, .ref (q 4)), (3, .int x3)]) : W p l e rmX1_write s m args below meth c H locs 0 0 (MQv G (CW G q) A s args below out) (F0 m 7 ls []) := by
  obtain ⟨hx, hb, hr, hts, hown, hml, hlocks⟩ := id bx
  unfold pX1_write_7_b at h
  refine lv_iload_n hx hb dX1_write_7 rfl (lv_at hl 3 rfl) ?_
  refine lv_iload_n hx hb dX1_write_8 rfl (lv_at hl 1 rfl) ?_
  refine lv_icmp_ge (tgt := 107) hx hb dX1_write_9 (by decide) (fun c_9 => ?_) (fun c_9 => ?_)
  · have h := br_T h c_9
    exact MQv.end hx hb hr hlocks hP hS dX1_write_107 h
  · have h := br_F h c_9
    refine lv_iload_n hx hb dX1_write_12 rfl (lv_at hl 3 rfl) ?_
    refine lv_if_le (tgt := 22) hx hb dX1_write_13 (by decide) (fun c_13 => ?_) (fun c_13 => ?_)
    · have h := br_T h c_13
      exact wX1_write_22 bx hA hK hk7 C x1 x3 h hP hD hS _ (lv_sub hl [0, 1, 2, 3] rfl)
    · have h := br_F h c_13
      refine lv_aload_n hx hb dX1_write_16 rfl (lv_at hl 0 rfl) ?_
      refine lv_bipush (v := 32) hx hb dX1_write_17 (by decide) ?_
      obtain ⟨u_10, hu_10, h⟩ := bd_ex h
      refine wr_v (Wd := CW G q) (va_runV (As := [.int 32]) (rest := []) ⟨hx, hb, hml, hown, hts⟩ (kX1_append l G q C _ 32 u_10 hu_10) (cwV 1 hts gX1_write_X1_append rfl rfl rfl (by decide +kernel) ⟨Nat.le_of_ble_eq_true rfl, Nat.le_of_ble_eq_true rfl⟩) (wrV hP hD hK 3 5 rfl rfl) rfl rfl hl.1 rfl (lv_room (Nat.le_of_ble_eq_true rfl)) dX1_write_19 ⟨Nat.zero_le _, Nat.zero_le _⟩) hD hS hA (fun _ => rfl) (fun H locs hP hD hS => ?_)
      exact wX1_write_22 bx hA hK hk7 u_10 x1 x3 h hP hD hS _ (lv_sub hl [0, 1, 2, 3] rfl)

theorem wX1_write_7 {p : Program} {l : Launch} {e : Env} {s : State} {m : MethodId} {args : Array Value} {below : List Frame} {meth : Method} {c : Code} {G : GT} {q : Nat → Nat} {A : Nat → Prop} {out : St} (bx : BX p RX1 wsX1_write cX1_write 4 none s m args meth c) (hA : ∀ q : Nat, s.heap.size ≤ q → A q) (hK : CK G s) :
    ∀ (n : Nat) (C : St) (x1 : Int32) (x3 : Int32), pX1_write_7 n C x1 x3 = some out → ∀ (H : Heap) (locs : List Loc) (hP : va_P G.1 vwCl (CW G q C) H) (hD : va_D A (CW G q C)) (hS : va_S A s.heap H locs), ∀ (ls : Array Slot), lv_has ls 4 [(0, .ref (q 5)), (1, .int x1), (2, .ref (q 4)), (3, .int x3)] → W p l e rmX1_write s m args below meth c H locs 0 0 (MQv G (CW G q) A s args below out) (F0 m 7 ls []) := by
  intro n
  induction n with
  | zero => intro _ _ _ h; cases h
  | succ n ih => exact fun a0 a1 a2 h _ _ hP hD hS ls hl => wX1_write_7_b bx hA hK ih a0 a1 a2 h hP hD hS ls hl

set_option maxHeartbeats 4000000 in
set_option maxRecDepth 100000 in
theorem kX1_write (l : Launch) (G : GT) (q : Nat → Nat) (C : St) (sz : Nat) (x1 : Int32) (r : St) (h : pX1_write C x1 = some r) : Met l yX1_write wsX1_write rmX1_write (va_Pc [.ref (q 5), .int x1, .ref (q 4)] (wrP G (CW G q C) sz)) (va_Qv (fun u => u = r) (fun u t => va_P G.1 vwCl (CW G q u) t.heap) (va_A (CW G q C) sz)) 0 0 (va_A (CW G q C) sz) := by
  refine Met.ofW (cc := cX1_write) (maxL := 4) (ret := none) (by decide) rfl ?_
  intro p e s m args below meth c s₁ B hml hv
  obtain ⟨rfl, hsz, hP, hK, hD0⟩ := hv
  have bx := bx_of B hml
  subst hsz
  have hD := hD0.self (sz := s.heap.size)
  generalize hAe : va_A (CW G q C) s.heap.size = A at hD ⊢
  have hA : ∀ q : Nat, s.heap.size ≤ q → A q := fun q h => by rw [← hAe]; exact Or.inr h
  have hS : va_S A s.heap s.heap [] := va_S.rf
  obtain ⟨hx, hb, hr, hts, hown, hml, hlocks⟩ := id bx
  have hl := lv_entry ([.ref (q 5), .int x1, .ref (q 4)]) (n := 4) (Nat.le_of_ble_eq_true rfl)
  rw [lg_entry_eq]
  generalize (lg_sl ([.ref (q 5), .int x1, .ref (q 4)]) ++ List.replicate (4 - (lg_sl ([.ref (q 5), .int x1, .ref (q 4)])).length) Slot.unset).toArray = ls at hl ⊢
  have hl : lv_has ls 4 [(0, .ref (q 5)), (1, .int x1), (2, .ref (q 4))] := hl
  show W p l e rmX1_write s m _ below meth c s.heap [] 0 0 (MQv G (CW G q) A s _ below r) (F0 m 0 ls [])
  unfold pX1_write at h
  refine lv_aload_n hx hb dX1_write_0 rfl (lv_at hl 0 rfl) ?_
  refine lv_iconst (v := 0) hx hb dX1_write_1 (by decide) ?_
  refine va_put (D := G.1) (ci := 3) (v := .int 0) (ty := .int) (C := RX1) (T := TX1) (N := 2) hx hb hts in_wsX1_write_X1 tyX1 tyX1_ok nmX1 hown hK.1 hP hD hS 5 rfl rfl 1 (by decide) (w_mem hts 1 rfl) (fun _ h9 => h9) rfl (by decide +kernel) rfl rfl (Nat.le_of_ble_eq_true rfl) dX1_write_2 (fun H locs hP hD hS => ?_)
  have hP : va_P G.1 vwCl (CW G q (sS C 9 0)) H := hP
  have hD : va_D A (CW G q (sS C 9 0)) := hD
  obtain ⟨C_1, eC_1, h⟩ := ltv_ex h
  rw [← eC_1] at hP hD
  refine lv_iconst (v := 0) hx hb dX1_write_5 (by decide) ?_
  refine lv_istore_n (lv' := [(3, .int 0), (0, .ref (q 5)), (1, .int x1), (2, .ref (q 4))]) hx hb dX1_write_6 rfl hl (by decide) rfl (fun ls hl => ?_)
  exact wX1_write_7 bx hA hK FU C_1 x1 0 h _ _ hP hD hS _ (lv_sub hl [1, 2, 3, 0] rfl)

def rmX5_grow : Room := { frames := 0, cells := 0, slots := 0, locals := 0 }

theorem in_wsX5_grow_X5 : ∀ w ∈ u_ws RX5 TX5 6, w ∈ wsX5_grow := by decide +kernel

set_option maxHeartbeats 4000000 in
set_option maxRecDepth 100000 in
theorem kX5_grow (l : Launch) (G : GT) (q : Nat → Nat) (C : St) (sz : Nat) (x1 : Int32) (r : Int32 × St) (h : pX5_grow C x1 = some r) : Met l yX5_grow wsX5_grow rmX5_grow (va_Pc [.ref (q 1), .int x1] (wrP G (CW G q C) sz)) (va_Qi (fun v u => (v, u) = r) (fun u t => va_P G.1 vwCl (CW G q u) t.heap) (va_A (CW G q C) sz)) 0 0 (va_A (CW G q C) sz) := by
  refine Met.ofW (cc := cX5_grow) (maxL := 3) (ret := (some .int)) (by decide) rfl ?_
  intro p e s m args below meth c s₁ B hml hv
  obtain ⟨rfl, hsz, hP, hK, hD0⟩ := hv
  have bx := bx_of B hml
  subst hsz
  have hD := hD0.self (sz := s.heap.size)
  generalize hAe : va_A (CW G q C) s.heap.size = A at hD ⊢
  have hA : ∀ q : Nat, s.heap.size ≤ q → A q := fun q h => by rw [← hAe]; exact Or.inr h
  have hS : va_S A s.heap s.heap [] := va_S.rf
  obtain ⟨hx, hb, hr, hts, hown, hml, hlocks⟩ := id bx
  have hl := lv_entry ([.ref (q 1), .int x1]) (n := 3) (Nat.le_of_ble_eq_true rfl)
  rw [lg_entry_eq]
  generalize (lg_sl ([.ref (q 1), .int x1]) ++ List.replicate (3 - (lg_sl ([.ref (q 1), .int x1])).length) Slot.unset).toArray = ls at hl ⊢
  have hl : lv_has ls 3 [(0, .ref (q 1)), (1, .int x1)] := hl
  show W p l e rmX5_grow s m _ below meth c s.heap [] 0 0 (MQi G (CW G q) A s _ below r) (F0 m 0 ls [])
  unfold pX5_grow at h
  refine lv_aload_n hx hb dX5_grow_0 rfl (lv_at hl 0 rfl) ?_
  refine va_get (D := G.1) (ci := 6) (v := .int (C.1 3)) (C := RX5) (T := TX5) (N := 6) hx hb hts in_wsX5_grow_X5 hown hK.1 hP 1 rfl rfl 5 (by decide) (w_mem hts 1 rfl) (fun _ h9 => h9) rfl dX5_grow_1 ?_
  refine lv_topi (fun v_1 ev_1 => ?_)
  have h := ltv_at h v_1 ev_1
  refine lv_istore_n (lv' := [(2, .int v_1), (0, .ref (q 1)), (1, .int x1)]) hx hb dX5_grow_4 rfl hl (by decide) rfl (fun ls hl => ?_)
  refine lv_aload_n hx hb dX5_grow_5 rfl (lv_at hl 1 rfl) ?_
  refine va_get (D := G.1) (ci := 6) (v := .ref (q 6)) (C := RX5) (T := TX5) (N := 6) hx hb hts in_wsX5_grow_X5 hown hK.1 hP 1 rfl rfl 0 (by decide) (w_mem hts 2 rfl) (fun _ h9 => h9) rfl dX5_grow_6 ?_
  refine lv_iload_n hx hb dX5_grow_9 rfl (lv_at hl 0 rfl) ?_
  refine lv_iload_n hx hb dX5_grow_10 rfl (lv_at hl 2 rfl) ?_
  obtain ⟨g11, h⟩ := gd_ex h
  refine va_iast (D := G.1) hx hb hK.1 hP hD hS 6 0 rfl rfl g11 dX5_grow_11 (fun H locs hP hD hS => ?_)
  have hP : va_P G.1 vwCl (CW G q (sA C 0 v_1.toNatClampNeg x1)) H := hP
  have hD : va_D A (CW G q (sA C 0 v_1.toNatClampNeg x1)) := hD
  obtain ⟨C_2, eC_2, h⟩ := ltv_ex h
  rw [← eC_2] at hP hD
  refine lv_aload_n hx hb dX5_grow_12 rfl (lv_at hl 1 rfl) ?_
  refine va_get (D := G.1) (ci := 6) (v := .ref (q 7)) (C := RX5) (T := TX5) (N := 6) hx hb hts in_wsX5_grow_X5 hown hK.1 hP 1 rfl rfl 1 (by decide) (w_mem hts 3 rfl) (fun _ h9 => h9) rfl dX5_grow_13 ?_
  refine lv_iload_n hx hb dX5_grow_16 rfl (lv_at hl 2 rfl) ?_
  refine lv_dup2_11 hx hb dX5_grow_17 rfl rfl ?_
  obtain ⟨g18, h⟩ := gd_ex h
  refine va_iald (D := G.1) hx hb hK.1 hP 7 0 rfl rfl g18 dX5_grow_18 ?_
  refine lv_iconst (v := 1) hx hb dX5_grow_19 (by decide) ?_
  refine lv_iload_n hx hb dX5_grow_20 rfl (lv_at hl 0 rfl) ?_
  refine lv_ishl hx hb dX5_grow_21 ?_
  refine lv_ior hx hb dX5_grow_22 ?_
  obtain ⟨g23, h⟩ := gd_ex h
  refine va_iast (D := G.1) hx hb hK.1 hP hD hS 7 0 rfl rfl g23 dX5_grow_23 (fun H locs hP hD hS => ?_)
  have hP : va_P G.1 vwCl (CW G q (sA C_2 1 x1.toNatClampNeg ((C_2.2 1 x1.toNatClampNeg) ||| ((1 : Int32) <<< (v_1 &&& 31))))) H := hP
  have hD : va_D A (CW G q (sA C_2 1 x1.toNatClampNeg ((C_2.2 1 x1.toNatClampNeg) ||| ((1 : Int32) <<< (v_1 &&& 31))))) := hD
  obtain ⟨C_3, eC_3, h⟩ := ltv_ex h
  rw [← eC_3] at hP hD
  refine lv_aload_n hx hb dX5_grow_24 rfl (lv_at hl 1 rfl) ?_
  refine va_get (D := G.1) (ci := 6) (v := .ref (q 9)) (C := RX5) (T := TX5) (N := 6) hx hb hts in_wsX5_grow_X5 hown hK.1 hP 1 rfl rfl 3 (by decide) (w_mem hts 4 rfl) (fun _ h9 => h9) rfl dX5_grow_25 ?_
  refine lv_iload_n hx hb dX5_grow_28 rfl (lv_at hl 0 rfl) ?_
  refine lv_bipush (v := 12) hx hb dX5_grow_29 (by decide) ?_
  obtain ⟨g31, h⟩ := gd_ex h
  refine va_iast (D := G.1) hx hb hK.1 hP hD hS 9 0 rfl rfl g31 dX5_grow_31 (fun H locs hP hD hS => ?_)
  have hP : va_P G.1 vwCl (CW G q (sA C_3 3 v_1.toNatClampNeg 12)) H := hP
  have hD : va_D A (CW G q (sA C_3 3 v_1.toNatClampNeg 12)) := hD
  obtain ⟨C_4, eC_4, h⟩ := ltv_ex h
  rw [← eC_4] at hP hD
  refine lv_aload_n hx hb dX5_grow_32 rfl (lv_at hl 1 rfl) ?_
  refine lv_dup hx hb dX5_grow_33 rfl ?_
  refine va_get (D := G.1) (ci := 6) (v := .int (C_4.1 3)) (C := RX5) (T := TX5) (N := 6) hx hb hts in_wsX5_grow_X5 hown hK.1 hP 1 rfl rfl 5 (by decide) (w_mem hts 1 rfl) (fun _ h9 => h9) rfl dX5_grow_34 ?_
  refine lv_iconst (v := 1) hx hb dX5_grow_37 (by decide) ?_
  refine lv_iadd hx hb dX5_grow_38 ?_
  refine va_put (D := G.1) (ci := 6) (v := .int ((C_4.1 3) + 1)) (ty := .int) (C := RX5) (T := TX5) (N := 6) hx hb hts in_wsX5_grow_X5 tyX5 tyX5_ok nmX5 hown hK.1 hP hD hS 1 rfl rfl 5 (by decide) (w_mem hts 1 rfl) (fun _ h9 => h9) rfl (by decide +kernel) rfl rfl (Nat.le_of_ble_eq_true rfl) dX5_grow_39 (fun H locs hP hD hS => ?_)
  have hP : va_P G.1 vwCl (CW G q (sS C_4 3 ((C_4.1 3) + 1))) H := hP
  have hD : va_D A (CW G q (sS C_4 3 ((C_4.1 3) + 1))) := hD
  obtain ⟨C_5, eC_5, h⟩ := ltv_ex h
  rw [← eC_5] at hP hD
  refine lv_iload_n hx hb dX5_grow_42 rfl (lv_at hl 0 rfl) ?_
  exact MQi.end hx hb hr hlocks hP hS dX5_grow_43 rfl h

def rmX3_append : Room := { frames := 0, cells := 0, slots := 0, locals := 0 }

theorem in_wsX3_append_X3 : ∀ w ∈ u_ws RX3 TX3 5, w ∈ wsX3_append := by decide +kernel

set_option maxHeartbeats 4000000 in
set_option maxRecDepth 100000 in
theorem kX3_append (l : Launch) (G : GT) (q : Nat → Nat) (C : St) (sz : Nat) (x1 : Int32) (x2 : Int32) (x3 : Int32) (r : Int32 × St) (h : pX3_append C x1 x2 x3 = some r) : Met l yX3_append wsX3_append rmX3_append (va_Pc [.ref (q 2), .int x1, .int x2, .int x3] (wrP G (CW G q C) sz)) (va_Qi (fun v u => (v, u) = r) (fun u t => va_P G.1 vwCl (CW G q u) t.heap) (va_A (CW G q C) sz)) 0 0 (va_A (CW G q C) sz) := by
  refine Met.ofW (cc := cX3_append) (maxL := 5) (ret := (some .int)) (by decide) rfl ?_
  intro p e s m args below meth c s₁ B hml hv
  obtain ⟨rfl, hsz, hP, hK, hD0⟩ := hv
  have bx := bx_of B hml
  subst hsz
  have hD := hD0.self (sz := s.heap.size)
  generalize hAe : va_A (CW G q C) s.heap.size = A at hD ⊢
  have hA : ∀ q : Nat, s.heap.size ≤ q → A q := fun q h => by rw [← hAe]; exact Or.inr h
  have hS : va_S A s.heap s.heap [] := va_S.rf
  obtain ⟨hx, hb, hr, hts, hown, hml, hlocks⟩ := id bx
  have hl := lv_entry ([.ref (q 2), .int x1, .int x2, .int x3]) (n := 5) (Nat.le_of_ble_eq_true rfl)
  rw [lg_entry_eq]
  generalize (lg_sl ([.ref (q 2), .int x1, .int x2, .int x3]) ++ List.replicate (5 - (lg_sl ([.ref (q 2), .int x1, .int x2, .int x3])).length) Slot.unset).toArray = ls at hl ⊢
  have hl : lv_has ls 5 [(0, .ref (q 2)), (1, .int x1), (2, .int x2), (3, .int x3)] := hl
  show W p l e rmX3_append s m _ below meth c s.heap [] 0 0 (MQi G (CW G q) A s _ below r) (F0 m 0 ls [])
  unfold pX3_append at h
  refine lv_aload_n hx hb dX3_append_0 rfl (lv_at hl 0 rfl) ?_
  refine va_get (D := G.1) (ci := 5) (v := .int (C.1 5)) (C := RX3) (T := TX3) (N := 5) hx hb hts in_wsX3_append_X3 hown hK.1 hP 2 rfl rfl 4 (by decide) (w_mem hts 1 rfl) (fun _ h9 => h9) rfl dX3_append_1 ?_
  refine lv_topi (fun v_1 ev_1 => ?_)
  have h := ltv_at h v_1 ev_1
  refine lv_istore (lv' := [(4, .int v_1), (0, .ref (q 2)), (1, .int x1), (2, .int x2), (3, .int x3)]) hx hb dX3_append_4 hl (by decide) rfl (fun ls hl => ?_)
  refine lv_aload_n hx hb dX3_append_6 rfl (lv_at hl 1 rfl) ?_
  refine va_get (D := G.1) (ci := 5) (v := .ref (q 10)) (C := RX3) (T := TX3) (N := 5) hx hb hts in_wsX3_append_X3 hown hK.1 hP 2 rfl rfl 0 (by decide) (w_mem hts 2 rfl) (fun _ h9 => h9) rfl dX3_append_7 ?_
  refine lv_iload hx hb dX3_append_10 (lv_at hl 0 rfl) ?_
  refine lv_iload_n hx hb dX3_append_12 rfl (lv_at hl 2 rfl) ?_
  obtain ⟨g13, h⟩ := gd_ex h
  refine va_iast (D := G.1) hx hb hK.1 hP hD hS 10 0 rfl rfl g13 dX3_append_13 (fun H locs hP hD hS => ?_)
  have hP : va_P G.1 vwCl (CW G q (sA C 4 v_1.toNatClampNeg x1)) H := hP
  have hD : va_D A (CW G q (sA C 4 v_1.toNatClampNeg x1)) := hD
  obtain ⟨C_2, eC_2, h⟩ := ltv_ex h
  rw [← eC_2] at hP hD
  refine lv_aload_n hx hb dX3_append_14 rfl (lv_at hl 1 rfl) ?_
  refine va_get (D := G.1) (ci := 5) (v := .ref (q 11)) (C := RX3) (T := TX3) (N := 5) hx hb hts in_wsX3_append_X3 hown hK.1 hP 2 rfl rfl 1 (by decide) (w_mem hts 3 rfl) (fun _ h9 => h9) rfl dX3_append_15 ?_
  refine lv_iload hx hb dX3_append_18 (lv_at hl 0 rfl) ?_
  refine lv_iload_n hx hb dX3_append_20 rfl (lv_at hl 3 rfl) ?_
  obtain ⟨g21, h⟩ := gd_ex h
  refine va_iast (D := G.1) hx hb hK.1 hP hD hS 11 0 rfl rfl g21 dX3_append_21 (fun H locs hP hD hS => ?_)
  have hP : va_P G.1 vwCl (CW G q (sA C_2 5 v_1.toNatClampNeg x2)) H := hP
  have hD : va_D A (CW G q (sA C_2 5 v_1.toNatClampNeg x2)) := hD
  obtain ⟨C_3, eC_3, h⟩ := ltv_ex h
  rw [← eC_3] at hP hD
  refine lv_aload_n hx hb dX3_append_22 rfl (lv_at hl 1 rfl) ?_
  refine va_get (D := G.1) (ci := 5) (v := .ref (q 12)) (C := RX3) (T := TX3) (N := 5) hx hb hts in_wsX3_append_X3 hown hK.1 hP 2 rfl rfl 2 (by decide) (w_mem hts 4 rfl) (fun _ h9 => h9) rfl dX3_append_23 ?_
  refine lv_iload hx hb dX3_append_26 (lv_at hl 0 rfl) ?_
  refine lv_iload_n hx hb dX3_append_28 rfl (lv_at hl 4 rfl) ?_
  obtain ⟨g29, h⟩ := gd_ex h
  refine va_iast (D := G.1) hx hb hK.1 hP hD hS 12 0 rfl rfl g29 dX3_append_29 (fun H locs hP hD hS => ?_)
  have hP : va_P G.1 vwCl (CW G q (sA C_3 6 v_1.toNatClampNeg x3)) H := hP
  have hD : va_D A (CW G q (sA C_3 6 v_1.toNatClampNeg x3)) := hD
  obtain ⟨C_4, eC_4, h⟩ := ltv_ex h
  rw [← eC_4] at hP hD
  refine lv_aload_n hx hb dX3_append_30 rfl (lv_at hl 1 rfl) ?_
  refine lv_dup hx hb dX3_append_31 rfl ?_
  refine va_get (D := G.1) (ci := 5) (v := .int (C_4.1 4)) (C := RX3) (T := TX3) (N := 5) hx hb hts in_wsX3_append_X3 hown hK.1 hP 2 rfl rfl 3 (by decide) (w_mem hts 5 rfl) (fun _ h9 => h9) rfl dX3_append_32 ?_
  refine lv_iconst (v := 1) hx hb dX3_append_35 (by decide) ?_
  refine lv_iload hx hb dX3_append_36 (lv_at hl 0 rfl) ?_
  refine lv_ishl hx hb dX3_append_38 ?_
  refine lv_ior hx hb dX3_append_39 ?_
  refine va_put (D := G.1) (ci := 5) (v := .int ((C_4.1 4) ||| ((1 : Int32) <<< (v_1 &&& 31)))) (ty := .int) (C := RX3) (T := TX3) (N := 5) hx hb hts in_wsX3_append_X3 tyX3 tyX3_ok nmX3 hown hK.1 hP hD hS 2 rfl rfl 3 (by decide) (w_mem hts 5 rfl) (fun _ h9 => h9) rfl (by decide +kernel) rfl rfl (Nat.le_of_ble_eq_true rfl) dX3_append_40 (fun H locs hP hD hS => ?_)
  have hP : va_P G.1 vwCl (CW G q (sS C_4 4 ((C_4.1 4) ||| ((1 : Int32) <<< (v_1 &&& 31))))) H := hP
  have hD : va_D A (CW G q (sS C_4 4 ((C_4.1 4) ||| ((1 : Int32) <<< (v_1 &&& 31))))) := hD
  obtain ⟨C_5, eC_5, h⟩ := ltv_ex h
  rw [← eC_5] at hP hD
  refine lv_aload_n hx hb dX3_append_43 rfl (lv_at hl 1 rfl) ?_
  refine lv_dup hx hb dX3_append_44 rfl ?_
  refine va_get (D := G.1) (ci := 5) (v := .int (C_5.1 5)) (C := RX3) (T := TX3) (N := 5) hx hb hts in_wsX3_append_X3 hown hK.1 hP 2 rfl rfl 4 (by decide) (w_mem hts 1 rfl) (fun _ h9 => h9) rfl dX3_append_45 ?_
  refine lv_iconst (v := 1) hx hb dX3_append_48 (by decide) ?_
  refine lv_iadd hx hb dX3_append_49 ?_
  refine va_put (D := G.1) (ci := 5) (v := .int ((C_5.1 5) + 1)) (ty := .int) (C := RX3) (T := TX3) (N := 5) hx hb hts in_wsX3_append_X3 tyX3 tyX3_ok nmX3 hown hK.1 hP hD hS 2 rfl rfl 4 (by decide) (w_mem hts 1 rfl) (fun _ h9 => h9) rfl (by decide +kernel) rfl rfl (Nat.le_of_ble_eq_true rfl) dX3_append_50 (fun H locs hP hD hS => ?_)
  have hP : va_P G.1 vwCl (CW G q (sS C_5 5 ((C_5.1 5) + 1))) H := hP
  have hD : va_D A (CW G q (sS C_5 5 ((C_5.1 5) + 1))) := hD
  obtain ⟨C_6, eC_6, h⟩ := ltv_ex h
  rw [← eC_6] at hP hD
  refine lv_iload hx hb dX3_append_53 (lv_at hl 0 rfl) ?_
  exact MQi.end hx hb hr hlocks hP hS dX3_append_55 rfl h

def rmX3_dropLast : Room := { frames := 0, cells := 0, slots := 0, locals := 0 }

theorem in_wsX3_dropLast_X3 : ∀ w ∈ u_ws RX3 TX3 5, w ∈ wsX3_dropLast := by decide +kernel

set_option maxHeartbeats 4000000 in
set_option maxRecDepth 100000 in
theorem kX3_dropLast (l : Launch) (G : GT) (q : Nat → Nat) (C : St) (sz : Nat) (r : St) (h : pX3_dropLast C = some r) : Met l yX3_dropLast wsX3_dropLast rmX3_dropLast (va_Pc [.ref (q 2)] (wrP G (CW G q C) sz)) (va_Qv (fun u => u = r) (fun u t => va_P G.1 vwCl (CW G q u) t.heap) (va_A (CW G q C) sz)) 0 0 (va_A (CW G q C) sz) := by
  refine Met.ofW (cc := cX3_dropLast) (maxL := 1) (ret := none) (by decide) rfl ?_
  intro p e s m args below meth c s₁ B hml hv
  obtain ⟨rfl, hsz, hP, hK, hD0⟩ := hv
  have bx := bx_of B hml
  subst hsz
  have hD := hD0.self (sz := s.heap.size)
  generalize hAe : va_A (CW G q C) s.heap.size = A at hD ⊢
  have hA : ∀ q : Nat, s.heap.size ≤ q → A q := fun q h => by rw [← hAe]; exact Or.inr h
  have hS : va_S A s.heap s.heap [] := va_S.rf
  obtain ⟨hx, hb, hr, hts, hown, hml, hlocks⟩ := id bx
  have hl := lv_entry ([.ref (q 2)]) (n := 1) (Nat.le_of_ble_eq_true rfl)
  rw [lg_entry_eq]
  generalize (lg_sl ([.ref (q 2)]) ++ List.replicate (1 - (lg_sl ([.ref (q 2)])).length) Slot.unset).toArray = ls at hl ⊢
  have hl : lv_has ls 1 [(0, .ref (q 2))] := hl
  show W p l e rmX3_dropLast s m _ below meth c s.heap [] 0 0 (MQv G (CW G q) A s _ below r) (F0 m 0 ls [])
  unfold pX3_dropLast at h
  refine lv_aload_n hx hb dX3_dropLast_0 rfl (lv_at hl 0 rfl) ?_
  refine lv_dup hx hb dX3_dropLast_1 rfl ?_
  refine va_get (D := G.1) (ci := 5) (v := .int (C.1 5)) (C := RX3) (T := TX3) (N := 5) hx hb hts in_wsX3_dropLast_X3 hown hK.1 hP 2 rfl rfl 4 (by decide) (w_mem hts 1 rfl) (fun _ h9 => h9) rfl dX3_dropLast_2 ?_
  refine lv_iconst (v := 1) hx hb dX3_dropLast_5 (by decide) ?_
  refine lv_isub hx hb dX3_dropLast_6 ?_
  refine va_put (D := G.1) (ci := 5) (v := .int ((C.1 5) - 1)) (ty := .int) (C := RX3) (T := TX3) (N := 5) hx hb hts in_wsX3_dropLast_X3 tyX3 tyX3_ok nmX3 hown hK.1 hP hD hS 2 rfl rfl 4 (by decide) (w_mem hts 1 rfl) (fun _ h9 => h9) rfl (by decide +kernel) rfl rfl (Nat.le_of_ble_eq_true rfl) dX3_dropLast_7 (fun H locs hP hD hS => ?_)
  have hP : va_P G.1 vwCl (CW G q (sS C 5 ((C.1 5) - 1))) H := hP
  have hD : va_D A (CW G q (sS C 5 ((C.1 5) - 1))) := hD
  obtain ⟨C_1, eC_1, h⟩ := ltv_ex h
  rw [← eC_1] at hP hD
  refine lv_aload_n hx hb dX3_dropLast_10 rfl (lv_at hl 0 rfl) ?_
  refine lv_dup hx hb dX3_dropLast_11 rfl ?_
  refine va_get (D := G.1) (ci := 5) (v := .int (C_1.1 4)) (C := RX3) (T := TX3) (N := 5) hx hb hts in_wsX3_dropLast_X3 hown hK.1 hP 2 rfl rfl 3 (by decide) (w_mem hts 2 rfl) (fun _ h9 => h9) rfl dX3_dropLast_12 ?_
  refine lv_iconst (v := 1) hx hb dX3_dropLast_15 (by decide) ?_
  refine lv_aload_n hx hb dX3_dropLast_16 rfl (lv_at hl 0 rfl) ?_
  refine va_get (D := G.1) (ci := 5) (v := .int (C_1.1 5)) (C := RX3) (T := TX3) (N := 5) hx hb hts in_wsX3_dropLast_X3 hown hK.1 hP 2 rfl rfl 4 (by decide) (w_mem hts 1 rfl) (fun _ h9 => h9) rfl dX3_dropLast_17 ?_
  refine lv_ishl hx hb dX3_dropLast_20 ?_
  refine lv_iconst (v := (-1)) hx hb dX3_dropLast_21 (by decide) ?_
  refine lv_ixor hx hb dX3_dropLast_22 ?_
  refine lv_iand hx hb dX3_dropLast_23 ?_
  refine va_put (D := G.1) (ci := 5) (v := .int ((C_1.1 4) &&& (((1 : Int32) <<< ((C_1.1 5) &&& 31)) ^^^ (-1)))) (ty := .int) (C := RX3) (T := TX3) (N := 5) hx hb hts in_wsX3_dropLast_X3 tyX3 tyX3_ok nmX3 hown hK.1 hP hD hS 2 rfl rfl 3 (by decide) (w_mem hts 2 rfl) (fun _ h9 => h9) rfl (by decide +kernel) rfl rfl (Nat.le_of_ble_eq_true rfl) dX3_dropLast_24 (fun H locs hP hD hS => ?_)
  have hP : va_P G.1 vwCl (CW G q (sS C_1 4 ((C_1.1 4) &&& (((1 : Int32) <<< ((C_1.1 5) &&& 31)) ^^^ (-1))))) H := hP
  have hD : va_D A (CW G q (sS C_1 4 ((C_1.1 4) &&& (((1 : Int32) <<< ((C_1.1 5) &&& 31)) ^^^ (-1))))) := hD
  obtain ⟨C_2, eC_2, h⟩ := ltv_ex h
  rw [← eC_2] at hP hD
  exact MQv.end hx hb hr hlocks hP hS dX3_dropLast_27 h

def rmX2_setFirst : Room := { frames := 0, cells := 0, slots := 0, locals := 0 }

theorem in_wsX2_setFirst_X2 : ∀ w ∈ u_ws RX2 TX2 5, w ∈ wsX2_setFirst := by decide +kernel

set_option maxHeartbeats 4000000 in
set_option maxRecDepth 100000 in
theorem kX2_setFirst (l : Launch) (G : GT) (q : Nat → Nat) (C : St) (sz : Nat) (x1 : Int32) (x2 : Int32) (r : St) (h : pX2_setFirst C x1 x2 = some r) : Met l yX2_setFirst wsX2_setFirst rmX2_setFirst (va_Pc [.ref (q 3), .int x1, .int x2] (wrP G (CW G q C) sz)) (va_Qv (fun u => u = r) (fun u t => va_P G.1 vwCl (CW G q u) t.heap) (va_A (CW G q C) sz)) 0 0 (va_A (CW G q C) sz) := by
  refine Met.ofW (cc := cX2_setFirst) (maxL := 3) (ret := none) (by decide) rfl ?_
  intro p e s m args below meth c s₁ B hml hv
  obtain ⟨rfl, hsz, hP, hK, hD0⟩ := hv
  have bx := bx_of B hml
  subst hsz
  have hD := hD0.self (sz := s.heap.size)
  generalize hAe : va_A (CW G q C) s.heap.size = A at hD ⊢
  have hA : ∀ q : Nat, s.heap.size ≤ q → A q := fun q h => by rw [← hAe]; exact Or.inr h
  have hS : va_S A s.heap s.heap [] := va_S.rf
  obtain ⟨hx, hb, hr, hts, hown, hml, hlocks⟩ := id bx
  have hl := lv_entry ([.ref (q 3), .int x1, .int x2]) (n := 3) (Nat.le_of_ble_eq_true rfl)
  rw [lg_entry_eq]
  generalize (lg_sl ([.ref (q 3), .int x1, .int x2]) ++ List.replicate (3 - (lg_sl ([.ref (q 3), .int x1, .int x2])).length) Slot.unset).toArray = ls at hl ⊢
  have hl : lv_has ls 3 [(0, .ref (q 3)), (1, .int x1), (2, .int x2)] := hl
  show W p l e rmX2_setFirst s m _ below meth c s.heap [] 0 0 (MQv G (CW G q) A s _ below r) (F0 m 0 ls [])
  unfold pX2_setFirst at h
  refine lv_aload_n hx hb dX2_setFirst_0 rfl (lv_at hl 0 rfl) ?_
  refine va_get (D := G.1) (ci := 4) (v := .ref (q 13)) (C := RX2) (T := TX2) (N := 5) hx hb hts in_wsX2_setFirst_X2 hown hK.1 hP 3 rfl rfl 0 (by decide) (w_mem hts 1 rfl) (fun _ h9 => h9) rfl dX2_setFirst_1 ?_
  refine lv_iload_n hx hb dX2_setFirst_4 rfl (lv_at hl 1 rfl) ?_
  refine lv_iload_n hx hb dX2_setFirst_5 rfl (lv_at hl 2 rfl) ?_
  obtain ⟨g6, h⟩ := gd_ex h
  refine va_iast (D := G.1) hx hb hK.1 hP hD hS 13 0 rfl rfl g6 dX2_setFirst_6 (fun H locs hP hD hS => ?_)
  have hP : va_P G.1 vwCl (CW G q (sA C 7 x1.toNatClampNeg x2)) H := hP
  have hD : va_D A (CW G q (sA C 7 x1.toNatClampNeg x2)) := hD
  obtain ⟨C_1, eC_1, h⟩ := ltv_ex h
  rw [← eC_1] at hP hD
  exact MQv.end hx hb hr hlocks hP hS dX2_setFirst_7 h

def rmX2_append : Room := { frames := 0, cells := 0, slots := 0, locals := 0 }

theorem in_wsX2_append_X2 : ∀ w ∈ u_ws RX2 TX2 5, w ∈ wsX2_append := by decide +kernel

set_option maxHeartbeats 4000000 in
set_option maxRecDepth 100000 in
theorem kX2_append (l : Launch) (G : GT) (q : Nat → Nat) (C : St) (sz : Nat) (x1 : Int32) (x2 : Int32) (x3 : Int32) (r : St) (h : pX2_append C x1 x2 x3 = some r) : Met l yX2_append wsX2_append rmX2_append (va_Pc [.ref (q 3), .int x1, .int x2, .int x3] (wrP G (CW G q C) sz)) (va_Qv (fun u => u = r) (fun u t => va_P G.1 vwCl (CW G q u) t.heap) (va_A (CW G q C) sz)) 0 0 (va_A (CW G q C) sz) := by
  refine Met.ofW (cc := cX2_append) (maxL := 4) (ret := none) (by decide) rfl ?_
  intro p e s m args below meth c s₁ B hml hv
  obtain ⟨rfl, hsz, hP, hK, hD0⟩ := hv
  have bx := bx_of B hml
  subst hsz
  have hD := hD0.self (sz := s.heap.size)
  generalize hAe : va_A (CW G q C) s.heap.size = A at hD ⊢
  have hA : ∀ q : Nat, s.heap.size ≤ q → A q := fun q h => by rw [← hAe]; exact Or.inr h
  have hS : va_S A s.heap s.heap [] := va_S.rf
  obtain ⟨hx, hb, hr, hts, hown, hml, hlocks⟩ := id bx
  have hl := lv_entry ([.ref (q 3), .int x1, .int x2, .int x3]) (n := 4) (Nat.le_of_ble_eq_true rfl)
  rw [lg_entry_eq]
  generalize (lg_sl ([.ref (q 3), .int x1, .int x2, .int x3]) ++ List.replicate (4 - (lg_sl ([.ref (q 3), .int x1, .int x2, .int x3])).length) Slot.unset).toArray = ls at hl ⊢
  have hl : lv_has ls 4 [(0, .ref (q 3)), (1, .int x1), (2, .int x2), (3, .int x3)] := hl
  show W p l e rmX2_append s m _ below meth c s.heap [] 0 0 (MQv G (CW G q) A s _ below r) (F0 m 0 ls [])
  unfold pX2_append at h
  refine lv_aload_n hx hb dX2_append_0 rfl (lv_at hl 0 rfl) ?_
  refine va_get (D := G.1) (ci := 4) (v := .ref (q 14)) (C := RX2) (T := TX2) (N := 5) hx hb hts in_wsX2_append_X2 hown hK.1 hP 3 rfl rfl 1 (by decide) (w_mem hts 1 rfl) (fun _ h9 => h9) rfl dX2_append_1 ?_
  refine lv_aload_n hx hb dX2_append_4 rfl (lv_at hl 0 rfl) ?_
  refine va_get (D := G.1) (ci := 4) (v := .int (C.1 6)) (C := RX2) (T := TX2) (N := 5) hx hb hts in_wsX2_append_X2 hown hK.1 hP 3 rfl rfl 4 (by decide) (w_mem hts 2 rfl) (fun _ h9 => h9) rfl dX2_append_5 ?_
  refine lv_iload_n hx hb dX2_append_8 rfl (lv_at hl 1 rfl) ?_
  obtain ⟨g9, h⟩ := gd_ex h
  refine va_iast (D := G.1) hx hb hK.1 hP hD hS 14 0 rfl rfl g9 dX2_append_9 (fun H locs hP hD hS => ?_)
  have hP : va_P G.1 vwCl (CW G q (sA C 8 (C.1 6).toNatClampNeg x1)) H := hP
  have hD : va_D A (CW G q (sA C 8 (C.1 6).toNatClampNeg x1)) := hD
  obtain ⟨C_1, eC_1, h⟩ := ltv_ex h
  rw [← eC_1] at hP hD
  refine lv_aload_n hx hb dX2_append_10 rfl (lv_at hl 0 rfl) ?_
  refine va_get (D := G.1) (ci := 4) (v := .ref (q 15)) (C := RX2) (T := TX2) (N := 5) hx hb hts in_wsX2_append_X2 hown hK.1 hP 3 rfl rfl 2 (by decide) (w_mem hts 3 rfl) (fun _ h9 => h9) rfl dX2_append_11 ?_
  refine lv_aload_n hx hb dX2_append_14 rfl (lv_at hl 0 rfl) ?_
  refine va_get (D := G.1) (ci := 4) (v := .int (C_1.1 6)) (C := RX2) (T := TX2) (N := 5) hx hb hts in_wsX2_append_X2 hown hK.1 hP 3 rfl rfl 4 (by decide) (w_mem hts 2 rfl) (fun _ h9 => h9) rfl dX2_append_15 ?_
  refine lv_iload_n hx hb dX2_append_18 rfl (lv_at hl 2 rfl) ?_
  obtain ⟨g19, h⟩ := gd_ex h
  refine va_iast (D := G.1) hx hb hK.1 hP hD hS 15 0 rfl rfl g19 dX2_append_19 (fun H locs hP hD hS => ?_)
  have hP : va_P G.1 vwCl (CW G q (sA C_1 9 (C_1.1 6).toNatClampNeg x2)) H := hP
  have hD : va_D A (CW G q (sA C_1 9 (C_1.1 6).toNatClampNeg x2)) := hD
  obtain ⟨C_2, eC_2, h⟩ := ltv_ex h
  rw [← eC_2] at hP hD
  refine lv_aload_n hx hb dX2_append_20 rfl (lv_at hl 0 rfl) ?_
  refine va_get (D := G.1) (ci := 4) (v := .ref (q 16)) (C := RX2) (T := TX2) (N := 5) hx hb hts in_wsX2_append_X2 hown hK.1 hP 3 rfl rfl 3 (by decide) (w_mem hts 4 rfl) (fun _ h9 => h9) rfl dX2_append_21 ?_
  refine lv_aload_n hx hb dX2_append_24 rfl (lv_at hl 0 rfl) ?_
  refine va_get (D := G.1) (ci := 4) (v := .int (C_2.1 6)) (C := RX2) (T := TX2) (N := 5) hx hb hts in_wsX2_append_X2 hown hK.1 hP 3 rfl rfl 4 (by decide) (w_mem hts 2 rfl) (fun _ h9 => h9) rfl dX2_append_25 ?_
  refine lv_iload_n hx hb dX2_append_28 rfl (lv_at hl 3 rfl) ?_
  obtain ⟨g29, h⟩ := gd_ex h
  refine va_iast (D := G.1) hx hb hK.1 hP hD hS 16 0 rfl rfl g29 dX2_append_29 (fun H locs hP hD hS => ?_)
  have hP : va_P G.1 vwCl (CW G q (sA C_2 10 (C_2.1 6).toNatClampNeg x3)) H := hP
  have hD : va_D A (CW G q (sA C_2 10 (C_2.1 6).toNatClampNeg x3)) := hD
  obtain ⟨C_3, eC_3, h⟩ := ltv_ex h
  rw [← eC_3] at hP hD
  refine lv_aload_n hx hb dX2_append_30 rfl (lv_at hl 0 rfl) ?_
  refine lv_dup hx hb dX2_append_31 rfl ?_
  refine va_get (D := G.1) (ci := 4) (v := .int (C_3.1 6)) (C := RX2) (T := TX2) (N := 5) hx hb hts in_wsX2_append_X2 hown hK.1 hP 3 rfl rfl 4 (by decide) (w_mem hts 2 rfl) (fun _ h9 => h9) rfl dX2_append_32 ?_
  refine lv_iconst (v := 1) hx hb dX2_append_35 (by decide) ?_
  refine lv_iadd hx hb dX2_append_36 ?_
  refine va_put (D := G.1) (ci := 4) (v := .int ((C_3.1 6) + 1)) (ty := .int) (C := RX2) (T := TX2) (N := 5) hx hb hts in_wsX2_append_X2 tyX2 tyX2_ok nmX2 hown hK.1 hP hD hS 3 rfl rfl 4 (by decide) (w_mem hts 2 rfl) (fun _ h9 => h9) rfl (by decide +kernel) rfl rfl (Nat.le_of_ble_eq_true rfl) dX2_append_37 (fun H locs hP hD hS => ?_)
  have hP : va_P G.1 vwCl (CW G q (sS C_3 6 ((C_3.1 6) + 1))) H := hP
  have hD : va_D A (CW G q (sS C_3 6 ((C_3.1 6) + 1))) := hD
  obtain ⟨C_4, eC_4, h⟩ := ltv_ex h
  rw [← eC_4] at hP hD
  exact MQv.end hx hb hr hlocks hP hS dX2_append_40 h

def rmX6_takeBack : Room := { frames := 0, cells := 0, slots := 0, locals := 0 }

theorem in_wsX6_takeBack_X6 : ∀ w ∈ u_ws RX6 TX6 7, w ∈ wsX6_takeBack := by decide +kernel

set_option maxHeartbeats 4000000 in
set_option maxRecDepth 100000 in
theorem kX6_takeBack (l : Launch) (G : GT) (q : Nat → Nat) (C : St) (sz : Nat) (x1 : Int32) (r : St) (h : pX6_takeBack C x1 = some r) : Met l yX6_takeBack wsX6_takeBack rmX6_takeBack (va_Pc [.ref (q 0), .int x1] (wrP G (CW G q C) sz)) (va_Qv (fun u => u = r) (fun u t => va_P G.1 vwCl (CW G q u) t.heap) (va_A (CW G q C) sz)) 0 0 (va_A (CW G q C) sz) := by
  refine Met.ofW (cc := cX6_takeBack) (maxL := 2) (ret := none) (by decide) rfl ?_
  intro p e s m args below meth c s₁ B hml hv
  obtain ⟨rfl, hsz, hP, hK, hD0⟩ := hv
  have bx := bx_of B hml
  subst hsz
  have hD := hD0.self (sz := s.heap.size)
  generalize hAe : va_A (CW G q C) s.heap.size = A at hD ⊢
  have hA : ∀ q : Nat, s.heap.size ≤ q → A q := fun q h => by rw [← hAe]; exact Or.inr h
  have hS : va_S A s.heap s.heap [] := va_S.rf
  obtain ⟨hx, hb, hr, hts, hown, hml, hlocks⟩ := id bx
  have hl := lv_entry ([.ref (q 0), .int x1]) (n := 2) (Nat.le_of_ble_eq_true rfl)
  rw [lg_entry_eq]
  generalize (lg_sl ([.ref (q 0), .int x1]) ++ List.replicate (2 - (lg_sl ([.ref (q 0), .int x1])).length) Slot.unset).toArray = ls at hl ⊢
  have hl : lv_has ls 2 [(0, .ref (q 0)), (1, .int x1)] := hl
  show W p l e rmX6_takeBack s m _ below meth c s.heap [] 0 0 (MQv G (CW G q) A s _ below r) (F0 m 0 ls [])
  unfold pX6_takeBack at h
  refine lv_aload_n hx hb dX6_takeBack_0 rfl (lv_at hl 0 rfl) ?_
  refine lv_dup hx hb dX6_takeBack_1 rfl ?_
  refine va_get (D := G.1) (ci := 7) (v := .int (C.1 0)) (C := RX6) (T := TX6) (N := 7) hx hb hts in_wsX6_takeBack_X6 hown hK.1 hP 0 rfl rfl 5 (by decide) (w_mem hts 1 rfl) (fun _ h9 => h9) rfl dX6_takeBack_2 ?_
  refine lv_iload_n hx hb dX6_takeBack_5 rfl (lv_at hl 1 rfl) ?_
  refine lv_iconst (v := (-1)) hx hb dX6_takeBack_6 (by decide) ?_
  refine lv_ixor hx hb dX6_takeBack_7 ?_
  refine lv_iand hx hb dX6_takeBack_8 ?_
  refine va_put (D := G.1) (ci := 7) (v := .int ((C.1 0) &&& (x1 ^^^ (-1)))) (ty := .int) (C := RX6) (T := TX6) (N := 7) hx hb hts in_wsX6_takeBack_X6 tyX6 tyX6_ok nmX6 hown hK.1 hP hD hS 0 rfl rfl 5 (by decide) (w_mem hts 1 rfl) (fun _ h9 => h9) rfl (by decide +kernel) rfl rfl (Nat.le_of_ble_eq_true rfl) dX6_takeBack_9 (fun H locs hP hD hS => ?_)
  have hP : va_P G.1 vwCl (CW G q (sS C 0 ((C.1 0) &&& (x1 ^^^ (-1))))) H := hP
  have hD : va_D A (CW G q (sS C 0 ((C.1 0) &&& (x1 ^^^ (-1))))) := hD
  obtain ⟨C_1, eC_1, h⟩ := ltv_ex h
  rw [← eC_1] at hP hD
  refine lv_aload_n hx hb dX6_takeBack_12 rfl (lv_at hl 0 rfl) ?_
  refine lv_dup hx hb dX6_takeBack_13 rfl ?_
  refine va_get (D := G.1) (ci := 7) (v := .int (C_1.1 1)) (C := RX6) (T := TX6) (N := 7) hx hb hts in_wsX6_takeBack_X6 hown hK.1 hP 0 rfl rfl 6 (by decide) (w_mem hts 2 rfl) (fun _ h9 => h9) rfl dX6_takeBack_14 ?_
  refine lv_iload_n hx hb dX6_takeBack_17 rfl (lv_at hl 1 rfl) ?_
  refine lv_iconst (v := (-1)) hx hb dX6_takeBack_18 (by decide) ?_
  refine lv_ixor hx hb dX6_takeBack_19 ?_
  refine lv_iand hx hb dX6_takeBack_20 ?_
  refine va_put (D := G.1) (ci := 7) (v := .int ((C_1.1 1) &&& (x1 ^^^ (-1)))) (ty := .int) (C := RX6) (T := TX6) (N := 7) hx hb hts in_wsX6_takeBack_X6 tyX6 tyX6_ok nmX6 hown hK.1 hP hD hS 0 rfl rfl 6 (by decide) (w_mem hts 2 rfl) (fun _ h9 => h9) rfl (by decide +kernel) rfl rfl (Nat.le_of_ble_eq_true rfl) dX6_takeBack_21 (fun H locs hP hD hS => ?_)
  have hP : va_P G.1 vwCl (CW G q (sS C_1 1 ((C_1.1 1) &&& (x1 ^^^ (-1))))) H := hP
  have hD : va_D A (CW G q (sS C_1 1 ((C_1.1 1) &&& (x1 ^^^ (-1))))) := hD
  obtain ⟨C_2, eC_2, h⟩ := ltv_ex h
  rw [← eC_2] at hP hD
  exact MQv.end hx hb hr hlocks hP hS dX6_takeBack_24 h

def rmX6_deduce : Room := { frames := 5, cells := 0, slots := 0, locals := 119 }

theorem in_wsX6_deduce_X6 : ∀ w ∈ u_ws RX6 TX6 7, w ∈ wsX6_deduce := by decide +kernel

set_option maxHeartbeats 4000000 in
set_option maxRecDepth 100000 in
theorem kX6_deduce (l : Launch) (G : GT) (q : Nat → Nat) (C : St) (sz : Nat) (r : St) (h : pX6_deduce C = some r) : Met l yX6_deduce wsX6_deduce rmX6_deduce (va_Pc [.ref (q 0)] (wrP G (CW G q C) sz)) (va_Qv (fun u => u = r) (fun u t => va_P G.1 vwCl (CW G q u) t.heap) (va_A (CW G q C) sz)) 0 0 (va_A (CW G q C) sz) := by
  refine Met.ofW (cc := cX6_deduce) (maxL := 1) (ret := none) (by decide) rfl ?_
  intro p e s m args below meth c s₁ B hml hv
  obtain ⟨rfl, hsz, hP, hK, hD0⟩ := hv
  have bx := bx_of B hml
  subst hsz
  have hD := hD0.self (sz := s.heap.size)
  generalize hAe : va_A (CW G q C) s.heap.size = A at hD ⊢
  have hA : ∀ q : Nat, s.heap.size ≤ q → A q := fun q h => by rw [← hAe]; exact Or.inr h
  have hS : va_S A s.heap s.heap [] := va_S.rf
  obtain ⟨hx, hb, hr, hts, hown, hml, hlocks⟩ := id bx
  have hl := lv_entry ([.ref (q 0)]) (n := 1) (Nat.le_of_ble_eq_true rfl)
  rw [lg_entry_eq]
  generalize (lg_sl ([.ref (q 0)]) ++ List.replicate (1 - (lg_sl ([.ref (q 0)])).length) Slot.unset).toArray = ls at hl ⊢
  have hl : lv_has ls 1 [(0, .ref (q 0))] := hl
  show W p l e rmX6_deduce s m _ below meth c s.heap [] 0 0 (MQv G (CW G q) A s _ below r) (F0 m 0 ls [])
  unfold pX6_deduce at h
  refine lv_aload_n hx hb dX6_deduce_0 rfl (lv_at hl 0 rfl) ?_
  refine va_get (D := G.1) (ci := 7) (v := .ref (q 4)) (C := RX6) (T := TX6) (N := 7) hx hb hts in_wsX6_deduce_X6 hown hK.1 hP 0 rfl rfl 3 (by decide) (w_mem hts 1 rfl) (fun _ h9 => h9) rfl dX6_deduce_1 ?_
  refine lv_aload_n hx hb dX6_deduce_4 rfl (lv_at hl 0 rfl) ?_
  refine va_get (D := G.1) (ci := 7) (v := .ref (q 1)) (C := RX6) (T := TX6) (N := 7) hx hb hts in_wsX6_deduce_X6 hown hK.1 hP 0 rfl rfl 0 (by decide) (w_mem hts 2 rfl) (fun _ h9 => h9) rfl dX6_deduce_5 ?_
  refine lv_aload_n hx hb dX6_deduce_8 rfl (lv_at hl 0 rfl) ?_
  refine va_get (D := G.1) (ci := 7) (v := .ref (q 2)) (C := RX6) (T := TX6) (N := 7) hx hb hts in_wsX6_deduce_X6 hown hK.1 hP 0 rfl rfl 1 (by decide) (w_mem hts 3 rfl) (fun _ h9 => h9) rfl dX6_deduce_9 ?_
  refine lv_aload_n hx hb dX6_deduce_12 rfl (lv_at hl 0 rfl) ?_
  refine va_get (D := G.1) (ci := 7) (v := .int (C.1 0)) (C := RX6) (T := TX6) (N := 7) hx hb hts in_wsX6_deduce_X6 hown hK.1 hP 0 rfl rfl 5 (by decide) (w_mem hts 4 rfl) (fun _ h9 => h9) rfl dX6_deduce_13 ?_
  refine lv_aload_n hx hb dX6_deduce_16 rfl (lv_at hl 0 rfl) ?_
  refine va_get (D := G.1) (ci := 7) (v := .int (C.1 1)) (C := RX6) (T := TX6) (N := 7) hx hb hts in_wsX6_deduce_X6 hown hK.1 hP 0 rfl rfl 6 (by decide) (w_mem hts 5 rfl) (fun _ h9 => h9) rfl dX6_deduce_17 ?_
  obtain ⟨u_1, hu_1, h⟩ := bd_ex h
  refine wr_v (Wd := CW G q) (va_runVN (As := [.ref (q 1), .ref (q 2), .int (C.1 0), .int (C.1 1)]) (rest := []) ⟨hx, hb, hml, hown, hts⟩ (kX0_run l G q C _ (C.1 0) (C.1 1) u_1 hu_1) ⟨va_cnB 4 hts gX6_deduce_X0_run_n296 rfl rfl rfl (hK.2.nw 19 rfl) (w_mem hts 7 rfl) (by decide +kernel) ⟨Nat.le_of_ble_eq_true rfl, Nat.le_of_ble_eq_true rfl⟩, (w_mem hts 6 rfl), (w_mem hts 8 rfl)⟩ (wrV hP hD hK 2 4 rfl rfl) rfl rfl hl.1 rfl (lv_room (Nat.le_of_ble_eq_true rfl)) dX6_deduce_20 ⟨Nat.zero_le _, Nat.zero_le _⟩) hD hS hA (fun _ => rfl) (fun H locs hP hD hS => ?_)
  exact MQv.end hx hb hr hlocks hP hS dX6_deduce_23 h

def rmX6_countUnknown : Room := { frames := 6, cells := 0, slots := 0, locals := 139 }

theorem in_wsX6_countUnknown_X6 : ∀ w ∈ u_ws RX6 TX6 7, w ∈ wsX6_countUnknown := by decide +kernel

theorem in_wsX6_countUnknown_X5 : ∀ w ∈ u_ws RX5 TX5 6, w ∈ wsX6_countUnknown := by decide +kernel

theorem in_wsX6_countUnknown_X0 : ∀ w ∈ u_ws RX0 TX0 4, w ∈ wsX6_countUnknown := by decide +kernel

set_option maxHeartbeats 4000000 in
set_option maxRecDepth 100000 in
theorem kX6_countUnknown (l : Launch) (G : GT) (q : Nat → Nat) (C : St) (sz : Nat) (r : Int32 × St) (h : pX6_countUnknown C = some r) : Met l yX6_countUnknown wsX6_countUnknown rmX6_countUnknown (va_Pc [.ref (q 0)] (wrP G (CW G q C) sz)) (va_Qi (fun v u => (v, u) = r) (fun u t => va_P G.1 vwCl (CW G q u) t.heap) (va_A (CW G q C) sz)) 0 0 (va_A (CW G q C) sz) := by
  refine Met.ofW (cc := cX6_countUnknown) (maxL := 1) (ret := (some .int)) (by decide) rfl ?_
  intro p e s m args below meth c s₁ B hml hv
  obtain ⟨rfl, hsz, hP, hK, hD0⟩ := hv
  have bx := bx_of B hml
  subst hsz
  have hD := hD0.self (sz := s.heap.size)
  generalize hAe : va_A (CW G q C) s.heap.size = A at hD ⊢
  have hA : ∀ q : Nat, s.heap.size ≤ q → A q := fun q h => by rw [← hAe]; exact Or.inr h
  have hS : va_S A s.heap s.heap [] := va_S.rf
  obtain ⟨hx, hb, hr, hts, hown, hml, hlocks⟩ := id bx
  have hl := lv_entry ([.ref (q 0)]) (n := 1) (Nat.le_of_ble_eq_true rfl)
  rw [lg_entry_eq]
  generalize (lg_sl ([.ref (q 0)]) ++ List.replicate (1 - (lg_sl ([.ref (q 0)])).length) Slot.unset).toArray = ls at hl ⊢
  have hl : lv_has ls 1 [(0, .ref (q 0))] := hl
  show W p l e rmX6_countUnknown s m _ below meth c s.heap [] 0 0 (MQi G (CW G q) A s _ below r) (F0 m 0 ls [])
  unfold pX6_countUnknown at h
  refine lv_aload_n hx hb dX6_countUnknown_0 rfl (lv_at hl 0 rfl) ?_
  obtain ⟨u_1, hu_1, h⟩ := bd_ex h
  refine wr_v (Wd := CW G q) (va_runV (As := []) (rest := []) ⟨hx, hb, hml, hown, hts⟩ (kX6_deduce l G q C _ u_1 hu_1) (cwV 0 hts gX6_countUnknown_X6_deduce rfl rfl rfl (by decide +kernel) ⟨Nat.le_of_ble_eq_true rfl, Nat.le_of_ble_eq_true rfl⟩) (wrV hP hD hK 7 0 rfl rfl) rfl rfl hl.1 rfl (lv_room (Nat.le_of_ble_eq_true rfl)) dX6_countUnknown_1 ⟨Nat.zero_le _, Nat.zero_le _⟩) hD hS hA (fun _ => rfl) (fun H locs hP hD hS => ?_)
  refine lv_aload_n hx hb dX6_countUnknown_4 rfl (lv_at hl 0 rfl) ?_
  refine va_get (D := G.1) (ci := 7) (v := .ref (q 1)) (C := RX6) (T := TX6) (N := 7) hx hb hts in_wsX6_countUnknown_X6 hown hK.1 hP 0 rfl rfl 0 (by decide) (w_mem hts 1 rfl) (fun _ h9 => h9) rfl dX6_countUnknown_5 ?_
  refine va_getN (D := G.1) (ci := 6) (v := .int (u_1.1 3)) (C := RX5) (T := TX5) (N := 6) hx hb hts in_wsX6_countUnknown_X5 hown hK.1 hP 1 rfl rfl 5 (by decide) (hK.2.at 33 rfl) (fun _ h9 => h9) rfl dX6_countUnknown_8 ?_
  refine lv_aload_n hx hb dX6_countUnknown_11 rfl (lv_at hl 0 rfl) ?_
  refine va_get (D := G.1) (ci := 7) (v := .ref (q 4)) (C := RX6) (T := TX6) (N := 7) hx hb hts in_wsX6_countUnknown_X6 hown hK.1 hP 0 rfl rfl 3 (by decide) (w_mem hts 2 rfl) (fun _ h9 => h9) rfl dX6_countUnknown_12 ?_
  refine va_getN (D := G.1) (ci := 2) (v := .int (u_1.1 7)) (C := RX0) (T := TX0) (N := 4) hx hb hts in_wsX6_countUnknown_X0 hown hK.1 hP 4 rfl rfl 2 (by decide) (hK.2.at 40 rfl) (fun _ h9 => h9) rfl dX6_countUnknown_15 ?_
  refine lv_aload_n hx hb dX6_countUnknown_18 rfl (lv_at hl 0 rfl) ?_
  refine va_get (D := G.1) (ci := 7) (v := .ref (q 4)) (C := RX6) (T := TX6) (N := 7) hx hb hts in_wsX6_countUnknown_X6 hown hK.1 hP 0 rfl rfl 3 (by decide) (w_mem hts 2 rfl) (fun _ h9 => h9) rfl dX6_countUnknown_19 ?_
  refine va_getN (D := G.1) (ci := 2) (v := .int (u_1.1 8)) (C := RX0) (T := TX0) (N := 4) hx hb hts in_wsX6_countUnknown_X0 hown hK.1 hP 4 rfl rfl 3 (by decide) (hK.2.at 41 rfl) (fun _ h9 => h9) rfl dX6_countUnknown_22 ?_
  refine lv_ior hx hb dX6_countUnknown_25 ?_
  obtain ⟨r_2, hr_2, h⟩ := bd_ex h
  refine ro_i (va_runS (As := [.int ((u_1.1 7) ||| (u_1.1 8))]) (rest := [.int (u_1.1 3)]) ⟨hx, hb, hml, hown, hts⟩ (kJ6_bitCount_0f7a4 l ((u_1.1 7) ||| (u_1.1 8)) r_2 hr_2) (va_cwS 1 hts gX6_countUnknown_J6_bitCount_0f7a4 rfl rfl rfl (by decide +kernel) ⟨Nat.le_of_ble_eq_true rfl, Nat.le_of_ble_eq_true rfl⟩) noS rfl rfl hl.1 rfl (lv_room (Nat.le_of_ble_eq_true rfl)) dX6_countUnknown_26 ⟨Nat.zero_le _, Nat.zero_le _⟩) ?_
  refine lv_isub hx hb dX6_countUnknown_29 ?_
  exact MQi.end hx hb hr hlocks hP hS dX6_countUnknown_30 rfl h

def rmX6_writeLine : Room := { frames := 6, cells := 0, slots := 0, locals := 139 }

theorem in_wsX6_writeLine_X6 : ∀ w ∈ u_ws RX6 TX6 7, w ∈ wsX6_writeLine := by decide +kernel

theorem in_wsX6_writeLine_X5 : ∀ w ∈ u_ws RX5 TX5 6, w ∈ wsX6_writeLine := by decide +kernel

set_option maxHeartbeats 4000000 in
set_option maxRecDepth 100000 in
theorem kX6_writeLine (l : Launch) (G : GT) (q : Nat → Nat) (C : St) (sz : Nat) (r : St) (h : pX6_writeLine C = some r) : Met l yX6_writeLine wsX6_writeLine rmX6_writeLine (va_Pc [.ref (q 0)] (wrP G (CW G q C) sz)) (va_Qv (fun u => u = r) (fun u t => va_P G.1 vwCl (CW G q u) t.heap) (va_A (CW G q C) sz)) 0 0 (va_A (CW G q C) sz) := by
  refine Met.ofW (cc := cX6_writeLine) (maxL := 1) (ret := none) (by decide) rfl ?_
  intro p e s m args below meth c s₁ B hml hv
  obtain ⟨rfl, hsz, hP, hK, hD0⟩ := hv
  have bx := bx_of B hml
  subst hsz
  have hD := hD0.self (sz := s.heap.size)
  generalize hAe : va_A (CW G q C) s.heap.size = A at hD ⊢
  have hA : ∀ q : Nat, s.heap.size ≤ q → A q := fun q h => by rw [← hAe]; exact Or.inr h
  have hS : va_S A s.heap s.heap [] := va_S.rf
  obtain ⟨hx, hb, hr, hts, hown, hml, hlocks⟩ := id bx
  have hl := lv_entry ([.ref (q 0)]) (n := 1) (Nat.le_of_ble_eq_true rfl)
  rw [lg_entry_eq]
  generalize (lg_sl ([.ref (q 0)]) ++ List.replicate (1 - (lg_sl ([.ref (q 0)])).length) Slot.unset).toArray = ls at hl ⊢
  have hl : lv_has ls 1 [(0, .ref (q 0))] := hl
  show W p l e rmX6_writeLine s m _ below meth c s.heap [] 0 0 (MQv G (CW G q) A s _ below r) (F0 m 0 ls [])
  unfold pX6_writeLine at h
  refine lv_aload_n hx hb dX6_writeLine_0 rfl (lv_at hl 0 rfl) ?_
  obtain ⟨u_1, hu_1, h⟩ := bd_ex h
  refine wr_v (Wd := CW G q) (va_runV (As := []) (rest := []) ⟨hx, hb, hml, hown, hts⟩ (kX6_deduce l G q C _ u_1 hu_1) (cwV 0 hts gX6_writeLine_X6_deduce rfl rfl rfl (by decide +kernel) ⟨Nat.le_of_ble_eq_true rfl, Nat.le_of_ble_eq_true rfl⟩) (wrV hP hD hK 7 0 rfl rfl) rfl rfl hl.1 rfl (lv_room (Nat.le_of_ble_eq_true rfl)) dX6_writeLine_1 ⟨Nat.zero_le _, Nat.zero_le _⟩) hD hS hA (fun _ => rfl) (fun H locs hP hD hS => ?_)
  refine lv_aload_n hx hb dX6_writeLine_4 rfl (lv_at hl 0 rfl) ?_
  refine va_get (D := G.1) (ci := 7) (v := .ref (q 5)) (C := RX6) (T := TX6) (N := 7) hx hb hts in_wsX6_writeLine_X6 hown hK.1 hP 0 rfl rfl 4 (by decide) (w_mem hts 1 rfl) (fun _ h9 => h9) rfl dX6_writeLine_5 ?_
  refine lv_aload_n hx hb dX6_writeLine_8 rfl (lv_at hl 0 rfl) ?_
  refine va_get (D := G.1) (ci := 7) (v := .ref (q 1)) (C := RX6) (T := TX6) (N := 7) hx hb hts in_wsX6_writeLine_X6 hown hK.1 hP 0 rfl rfl 0 (by decide) (w_mem hts 2 rfl) (fun _ h9 => h9) rfl dX6_writeLine_9 ?_
  refine va_getN (D := G.1) (ci := 6) (v := .int (u_1.1 3)) (C := RX5) (T := TX5) (N := 6) hx hb hts in_wsX6_writeLine_X5 hown hK.1 hP 1 rfl rfl 5 (by decide) (hK.2.at 33 rfl) (fun _ h9 => h9) rfl dX6_writeLine_12 ?_
  refine lv_aload_n hx hb dX6_writeLine_15 rfl (lv_at hl 0 rfl) ?_
  refine va_get (D := G.1) (ci := 7) (v := .ref (q 4)) (C := RX6) (T := TX6) (N := 7) hx hb hts in_wsX6_writeLine_X6 hown hK.1 hP 0 rfl rfl 3 (by decide) (w_mem hts 3 rfl) (fun _ h9 => h9) rfl dX6_writeLine_16 ?_
  obtain ⟨u_2, hu_2, h⟩ := bd_ex h
  refine wr_v (Wd := CW G q) (va_runVN (As := [.int (u_1.1 3), .ref (q 4)]) (rest := []) ⟨hx, hb, hml, hown, hts⟩ (kX1_write l G q u_1 _ (u_1.1 3) u_2 hu_2) ⟨va_cnB 2 hts gX6_writeLine_X1_write_n300 rfl rfl rfl (hK.2.nw 20 rfl) (w_mem hts 66 rfl) (by decide +kernel) ⟨Nat.le_of_ble_eq_true rfl, Nat.le_of_ble_eq_true rfl⟩, (w_mem hts 65 rfl), (w_mem hts 67 rfl)⟩ (wrV hP hD hK 3 5 rfl rfl) rfl rfl hl.1 rfl (lv_room (Nat.le_of_ble_eq_true rfl)) dX6_writeLine_19 ⟨Nat.zero_le _, Nat.zero_le _⟩) hD hS hA (fun _ => rfl) (fun H locs hP hD hS => ?_)
  exact MQv.end hx hb hr hlocks hP hS dX6_writeLine_22 h

def rmX6_retractAll : Room := { frames := 1, cells := 0, slots := 0, locals := 21 }

theorem in_wsX6_retractAll_X6 : ∀ w ∈ u_ws RX6 TX6 7, w ∈ wsX6_retractAll := by decide +kernel

set_option maxHeartbeats 4000000 in
set_option maxRecDepth 100000 in
theorem kX6_retractAll (l : Launch) (G : GT) (q : Nat → Nat) (C : St) (sz : Nat) (r : Int32 × St) (h : pX6_retractAll C = some r) : Met l yX6_retractAll wsX6_retractAll rmX6_retractAll (va_Pc [.ref (q 0)] (wrP G (CW G q C) sz)) (va_Qi (fun v u => (v, u) = r) (fun u t => va_P G.1 vwCl (CW G q u) t.heap) (va_A (CW G q C) sz)) 0 0 (va_A (CW G q C) sz) := by
  refine Met.ofW (cc := cX6_retractAll) (maxL := 2) (ret := (some .int)) (by decide) rfl ?_
  intro p e s m args below meth c s₁ B hml hv
  obtain ⟨rfl, hsz, hP, hK, hD0⟩ := hv
  have bx := bx_of B hml
  subst hsz
  have hD := hD0.self (sz := s.heap.size)
  generalize hAe : va_A (CW G q C) s.heap.size = A at hD ⊢
  have hA : ∀ q : Nat, s.heap.size ≤ q → A q := fun q h => by rw [← hAe]; exact Or.inr h
  have hS : va_S A s.heap s.heap [] := va_S.rf
  obtain ⟨hx, hb, hr, hts, hown, hml, hlocks⟩ := id bx
  have hl := lv_entry ([.ref (q 0)]) (n := 2) (Nat.le_of_ble_eq_true rfl)
  rw [lg_entry_eq]
  generalize (lg_sl ([.ref (q 0)]) ++ List.replicate (2 - (lg_sl ([.ref (q 0)])).length) Slot.unset).toArray = ls at hl ⊢
  have hl : lv_has ls 2 [(0, .ref (q 0))] := hl
  show W p l e rmX6_retractAll s m _ below meth c s.heap [] 0 0 (MQi G (CW G q) A s _ below r) (F0 m 0 ls [])
  unfold pX6_retractAll at h
  refine lv_aload_n hx hb dX6_retractAll_0 rfl (lv_at hl 0 rfl) ?_
  refine va_get (D := G.1) (ci := 7) (v := .int (C.1 0)) (C := RX6) (T := TX6) (N := 7) hx hb hts in_wsX6_retractAll_X6 hown hK.1 hP 0 rfl rfl 5 (by decide) (w_mem hts 1 rfl) (fun _ h9 => h9) rfl dX6_retractAll_1 ?_
  refine lv_aload_n hx hb dX6_retractAll_4 rfl (lv_at hl 0 rfl) ?_
  refine va_get (D := G.1) (ci := 7) (v := .int (C.1 1)) (C := RX6) (T := TX6) (N := 7) hx hb hts in_wsX6_retractAll_X6 hown hK.1 hP 0 rfl rfl 6 (by decide) (w_mem hts 2 rfl) (fun _ h9 => h9) rfl dX6_retractAll_5 ?_
  refine lv_ior hx hb dX6_retractAll_8 ?_
  refine lv_topi (fun v_1 ev_1 => ?_)
  have h := ltv_at h v_1 ev_1
  refine lv_istore_n (lv' := [(1, .int v_1), (0, .ref (q 0))]) hx hb dX6_retractAll_9 rfl hl (by decide) rfl (fun ls hl => ?_)
  refine lv_aload_n hx hb dX6_retractAll_10 rfl (lv_at hl 1 rfl) ?_
  refine lv_iload_n hx hb dX6_retractAll_11 rfl (lv_at hl 0 rfl) ?_
  obtain ⟨u_2, hu_2, h⟩ := bd_ex h
  refine wr_v (Wd := CW G q) (va_runV (As := [.int v_1]) (rest := []) ⟨hx, hb, hml, hown, hts⟩ (kX6_takeBack l G q C _ v_1 u_2 hu_2) (cwV 1 hts gX6_retractAll_X6_takeBack rfl rfl rfl (by decide +kernel) ⟨Nat.le_of_ble_eq_true rfl, Nat.le_of_ble_eq_true rfl⟩) (wrV hP hD hK 7 0 rfl rfl) rfl rfl hl.1 rfl (lv_room (Nat.le_of_ble_eq_true rfl)) dX6_retractAll_12 ⟨Nat.zero_le _, Nat.zero_le _⟩) hD hS hA (fun _ => rfl) (fun H locs hP hD hS => ?_)
  refine lv_iload_n hx hb dX6_retractAll_15 rfl (lv_at hl 0 rfl) ?_
  obtain ⟨r_3, hr_3, h⟩ := bd_ex h
  refine ro_i (va_runS (As := [.int v_1]) (rest := []) ⟨hx, hb, hml, hown, hts⟩ (kJ6_bitCount_0f7a4 l v_1 r_3 hr_3) (va_cwS 1 hts gX6_retractAll_J6_bitCount_0f7a4 rfl rfl rfl (by decide +kernel) ⟨Nat.le_of_ble_eq_true rfl, Nat.le_of_ble_eq_true rfl⟩) noS rfl rfl hl.1 rfl (lv_room (Nat.le_of_ble_eq_true rfl)) dX6_retractAll_16 ⟨Nat.zero_le _, Nat.zero_le _⟩) ?_
  exact MQi.end hx hb hr hlocks hP hS dX6_retractAll_19 rfl h

def rmX6_complete : Room := { frames := 19, cells := 0, slots := 0, locals := 523 }

theorem in_wsX6_complete_X6 : ∀ w ∈ u_ws RX6 TX6 7, w ∈ wsX6_complete := by decide +kernel

set_option maxHeartbeats 4000000 in
set_option maxRecDepth 100000 in
theorem kX6_complete (l : Launch) (G : GT) (q : Nat → Nat) (C : St) (sz : Nat) (r : Int32 × St) (h : pX6_complete C = some r) : Met l yX6_complete wsX6_complete rmX6_complete (va_Pc [.ref (q 0)] (wrP G (CW G q C) sz)) (va_Qi (fun v u => (v, u) = r) (fun u t => va_P G.1 vwCl (CW G q u) t.heap) (va_A (CW G q C) sz)) 0 0 (va_A (CW G q C) sz) := by
  refine Met.ofW (cc := cX6_complete) (maxL := 3) (ret := (some .int)) (by decide) rfl ?_
  intro p e s m args below meth c s₁ B hml hv
  obtain ⟨rfl, hsz, hP, hK, hD0⟩ := hv
  have bx := bx_of B hml
  subst hsz
  have hD := hD0.self (sz := s.heap.size)
  generalize hAe : va_A (CW G q C) s.heap.size = A at hD ⊢
  have hA : ∀ q : Nat, s.heap.size ≤ q → A q := fun q h => by rw [← hAe]; exact Or.inr h
  have hS : va_S A s.heap s.heap [] := va_S.rf
  obtain ⟨hx, hb, hr, hts, hown, hml, hlocks⟩ := id bx
  have hl := lv_entry ([.ref (q 0)]) (n := 3) (Nat.le_of_ble_eq_true rfl)
  rw [lg_entry_eq]
  generalize (lg_sl ([.ref (q 0)]) ++ List.replicate (3 - (lg_sl ([.ref (q 0)])).length) Slot.unset).toArray = ls at hl ⊢
  have hl : lv_has ls 3 [(0, .ref (q 0))] := hl
  show W p l e rmX6_complete s m _ below meth c s.heap [] 0 0 (MQi G (CW G q) A s _ below r) (F0 m 0 ls [])
  unfold pX6_complete at h
  refine lv_aload_n hx hb dX6_complete_0 rfl (lv_at hl 0 rfl) ?_
  obtain ⟨r_1, hr_1, h⟩ := bd_ex h
  refine ro_i (va_runV (As := []) (rest := []) ⟨hx, hb, hml, hown, hts⟩ (kX6_cheapest l G q C r_1 hr_1) (cwV 0 hts gX6_complete_X6_cheapest rfl rfl rfl (by decide +kernel) ⟨Nat.le_of_ble_eq_true rfl, Nat.le_of_ble_eq_true rfl⟩) (roV hP hK 7 0 rfl rfl) rfl rfl hl.1 rfl (lv_room (Nat.le_of_ble_eq_true rfl)) dX6_complete_1 ⟨Nat.zero_le _, Nat.zero_le _⟩) ?_
  refine lv_istore_n (lv' := [(1, .int r_1), (0, .ref (q 0))]) hx hb dX6_complete_4 rfl hl (by decide) rfl (fun ls hl => ?_)
  refine lv_aload_n hx hb dX6_complete_5 rfl (lv_at hl 1 rfl) ?_
  refine va_get (D := G.1) (ci := 7) (v := .ref (q 1)) (C := RX6) (T := TX6) (N := 7) hx hb hts in_wsX6_complete_X6 hown hK.1 hP 0 rfl rfl 0 (by decide) (w_mem hts 1 rfl) (fun _ h9 => h9) rfl dX6_complete_6 ?_
  obtain ⟨r_2, hr_2, h⟩ := bd_ex h
  refine ro_i (va_runVN (As := []) (rest := []) ⟨hx, hb, hml, hown, hts⟩ (kX5_allFeatures l G q C r_2 hr_2) ⟨va_cnB 0 hts gX6_complete_X5_allFeatures_n200 rfl rfl rfl (hK.2.nw 10 rfl) (w_mem hts 20 rfl) (by decide +kernel) ⟨Nat.le_of_ble_eq_true rfl, Nat.le_of_ble_eq_true rfl⟩, (w_mem hts 84 rfl), (w_mem hts 85 rfl)⟩ (roV hP hK 6 1 rfl rfl) rfl rfl hl.1 rfl (lv_room (Nat.le_of_ble_eq_true rfl)) dX6_complete_9 ⟨Nat.zero_le _, Nat.zero_le _⟩) ?_
  refine lv_iconst (v := 1) hx hb dX6_complete_12 (by decide) ?_
  refine lv_aload_n hx hb dX6_complete_13 rfl (lv_at hl 1 rfl) ?_
  refine va_get (D := G.1) (ci := 7) (v := .int (C.1 0)) (C := RX6) (T := TX6) (N := 7) hx hb hts in_wsX6_complete_X6 hown hK.1 hP 0 rfl rfl 5 (by decide) (w_mem hts 2 rfl) (fun _ h9 => h9) rfl dX6_complete_14 ?_
  refine lv_ior hx hb dX6_complete_17 ?_
  refine lv_aload_n hx hb dX6_complete_18 rfl (lv_at hl 1 rfl) ?_
  refine va_get (D := G.1) (ci := 7) (v := .int (C.1 1)) (C := RX6) (T := TX6) (N := 7) hx hb hts in_wsX6_complete_X6 hown hK.1 hP 0 rfl rfl 6 (by decide) (w_mem hts 3 rfl) (fun _ h9 => h9) rfl dX6_complete_19 ?_
  refine lv_ior hx hb dX6_complete_22 ?_
  refine lv_iconst (v := (-1)) hx hb dX6_complete_23 (by decide) ?_
  refine lv_ixor hx hb dX6_complete_24 ?_
  refine lv_iand hx hb dX6_complete_25 ?_
  refine lv_topi (fun v_3 ev_3 => ?_)
  have h := ltv_at h v_3 ev_3
  refine lv_istore_n (lv' := [(2, .int v_3), (1, .int r_1), (0, .ref (q 0))]) hx hb dX6_complete_26 rfl hl (by decide) rfl (fun ls hl => ?_)
  refine lv_aload_n hx hb dX6_complete_27 rfl (lv_at hl 2 rfl) ?_
  refine lv_dup hx hb dX6_complete_28 rfl ?_
  refine va_get (D := G.1) (ci := 7) (v := .int (C.1 0)) (C := RX6) (T := TX6) (N := 7) hx hb hts in_wsX6_complete_X6 hown hK.1 hP 0 rfl rfl 5 (by decide) (w_mem hts 2 rfl) (fun _ h9 => h9) rfl dX6_complete_29 ?_
  refine lv_iload_n hx hb dX6_complete_32 rfl (lv_at hl 0 rfl) ?_
  refine lv_iload_n hx hb dX6_complete_33 rfl (lv_at hl 1 rfl) ?_
  refine lv_iand hx hb dX6_complete_34 ?_
  refine lv_ior hx hb dX6_complete_35 ?_
  refine va_put (D := G.1) (ci := 7) (v := .int ((C.1 0) ||| (v_3 &&& r_1))) (ty := .int) (C := RX6) (T := TX6) (N := 7) hx hb hts in_wsX6_complete_X6 tyX6 tyX6_ok nmX6 hown hK.1 hP hD hS 0 rfl rfl 5 (by decide) (w_mem hts 2 rfl) (fun _ h9 => h9) rfl (by decide +kernel) rfl rfl (Nat.le_of_ble_eq_true rfl) dX6_complete_36 (fun H locs hP hD hS => ?_)
  have hP : va_P G.1 vwCl (CW G q (sS C 0 ((C.1 0) ||| (v_3 &&& r_1)))) H := hP
  have hD : va_D A (CW G q (sS C 0 ((C.1 0) ||| (v_3 &&& r_1)))) := hD
  obtain ⟨C_4, eC_4, h⟩ := ltv_ex h
  rw [← eC_4] at hP hD
  refine lv_aload_n hx hb dX6_complete_39 rfl (lv_at hl 2 rfl) ?_
  refine lv_dup hx hb dX6_complete_40 rfl ?_
  refine va_get (D := G.1) (ci := 7) (v := .int (C_4.1 1)) (C := RX6) (T := TX6) (N := 7) hx hb hts in_wsX6_complete_X6 hown hK.1 hP 0 rfl rfl 6 (by decide) (w_mem hts 3 rfl) (fun _ h9 => h9) rfl dX6_complete_41 ?_
  refine lv_iload_n hx hb dX6_complete_44 rfl (lv_at hl 0 rfl) ?_
  refine lv_iload_n hx hb dX6_complete_45 rfl (lv_at hl 1 rfl) ?_
  refine lv_iconst (v := (-1)) hx hb dX6_complete_46 (by decide) ?_
  refine lv_ixor hx hb dX6_complete_47 ?_
  refine lv_iand hx hb dX6_complete_48 ?_
  refine lv_ior hx hb dX6_complete_49 ?_
  refine va_put (D := G.1) (ci := 7) (v := .int ((C_4.1 1) ||| (v_3 &&& (r_1 ^^^ (-1))))) (ty := .int) (C := RX6) (T := TX6) (N := 7) hx hb hts in_wsX6_complete_X6 tyX6 tyX6_ok nmX6 hown hK.1 hP hD hS 0 rfl rfl 6 (by decide) (w_mem hts 3 rfl) (fun _ h9 => h9) rfl (by decide +kernel) rfl rfl (Nat.le_of_ble_eq_true rfl) dX6_complete_50 (fun H locs hP hD hS => ?_)
  have hP : va_P G.1 vwCl (CW G q (sS C_4 1 ((C_4.1 1) ||| (v_3 &&& (r_1 ^^^ (-1)))))) H := hP
  have hD : va_D A (CW G q (sS C_4 1 ((C_4.1 1) ||| (v_3 &&& (r_1 ^^^ (-1)))))) := hD
  obtain ⟨C_5, eC_5, h⟩ := ltv_ex h
  rw [← eC_5] at hP hD
  refine lv_aload_n hx hb dX6_complete_53 rfl (lv_at hl 2 rfl) ?_
  refine va_get (D := G.1) (ci := 7) (v := .ref (q 3)) (C := RX6) (T := TX6) (N := 7) hx hb hts in_wsX6_complete_X6 hown hK.1 hP 0 rfl rfl 2 (by decide) (w_mem hts 4 rfl) (fun _ h9 => h9) rfl dX6_complete_54 ?_
  refine lv_iload_n hx hb dX6_complete_57 rfl (lv_at hl 1 rfl) ?_
  obtain ⟨r_6, hr_6, h⟩ := bd_ex h
  refine ro_i (va_runVN (As := [.int r_1]) (rest := []) ⟨hx, hb, hml, hown, hts⟩ (kX2_ofSet l G q C_5 r_1 r_6 hr_6) ⟨va_cnB 1 hts gX6_complete_X2_ofSet_n220 rfl rfl rfl (hK.2.nw 11 rfl) (w_mem hts 56 rfl) (by decide +kernel) ⟨Nat.le_of_ble_eq_true rfl, Nat.le_of_ble_eq_true rfl⟩, (w_mem hts 64 rfl), (w_mem hts 65 rfl)⟩ (roV hP hK 4 3 rfl rfl) rfl rfl hl.1 rfl (lv_room (Nat.le_of_ble_eq_true rfl)) dX6_complete_58 ⟨Nat.zero_le _, Nat.zero_le _⟩) ?_
  exact MQi.end hx hb hr hlocks hP hS dX6_complete_61 rfl h

def rmX6_unknown : Room := { frames := 7, cells := 0, slots := 0, locals := 159 }

set_option maxHeartbeats 4000000 in
set_option maxRecDepth 100000 in
theorem kX6_unknown (l : Launch) (G : GT) (q : Nat → Nat) (C : St) (sz : Nat) (r : Int32 × St) (h : pX6_unknown C = some r) : Met l yX6_unknown wsX6_unknown rmX6_unknown (va_Pc [.ref (q 0)] (wrP G (CW G q C) sz)) (va_Qi (fun v u => (v, u) = r) (fun u t => va_P G.1 vwCl (CW G q u) t.heap) (va_A (CW G q C) sz)) 0 0 (va_A (CW G q C) sz) := by
  refine Met.ofW (cc := cX6_unknown) (maxL := 1) (ret := (some .int)) (by decide) rfl ?_
  intro p e s m args below meth c s₁ B hml hv
  obtain ⟨rfl, hsz, hP, hK, hD0⟩ := hv
  have bx := bx_of B hml
  subst hsz
  have hD := hD0.self (sz := s.heap.size)
  generalize hAe : va_A (CW G q C) s.heap.size = A at hD ⊢
  have hA : ∀ q : Nat, s.heap.size ≤ q → A q := fun q h => by rw [← hAe]; exact Or.inr h
  have hS : va_S A s.heap s.heap [] := va_S.rf
  obtain ⟨hx, hb, hr, hts, hown, hml, hlocks⟩ := id bx
  have hl := lv_entry ([.ref (q 0)]) (n := 1) (Nat.le_of_ble_eq_true rfl)
  rw [lg_entry_eq]
  generalize (lg_sl ([.ref (q 0)]) ++ List.replicate (1 - (lg_sl ([.ref (q 0)])).length) Slot.unset).toArray = ls at hl ⊢
  have hl : lv_has ls 1 [(0, .ref (q 0))] := hl
  show W p l e rmX6_unknown s m _ below meth c s.heap [] 0 0 (MQi G (CW G q) A s _ below r) (F0 m 0 ls [])
  unfold pX6_unknown at h
  refine lv_aload_n hx hb dX6_unknown_0 rfl (lv_at hl 0 rfl) ?_
  obtain ⟨u_1, hu_1, h⟩ := bd_ex h
  refine wr_i (Wd := CW G q) (va_runV (As := []) (rest := []) ⟨hx, hb, hml, hown, hts⟩ (kX6_countUnknown l G q C _ u_1 hu_1) (cwV 0 hts gX6_unknown_X6_countUnknown rfl rfl rfl (by decide +kernel) ⟨Nat.le_of_ble_eq_true rfl, Nat.le_of_ble_eq_true rfl⟩) (wrV hP hD hK 7 0 rfl rfl) rfl rfl hl.1 rfl (lv_room (Nat.le_of_ble_eq_true rfl)) dX6_unknown_1 ⟨Nat.zero_le _, Nat.zero_le _⟩) hD hS hA (fun _ => rfl) (fun H locs hP hD hS => ?_)
  exact MQi.end hx hb hr hlocks hP hS dX6_unknown_4 rfl h

def rmX6_lineLength : Room := { frames := 7, cells := 0, slots := 0, locals := 159 }

theorem in_wsX6_lineLength_X6 : ∀ w ∈ u_ws RX6 TX6 7, w ∈ wsX6_lineLength := by decide +kernel

theorem in_wsX6_lineLength_X1 : ∀ w ∈ u_ws RX1 TX1 2, w ∈ wsX6_lineLength := by decide +kernel

set_option maxHeartbeats 4000000 in
set_option maxRecDepth 100000 in
theorem kX6_lineLength (l : Launch) (G : GT) (q : Nat → Nat) (C : St) (sz : Nat) (r : Int32 × St) (h : pX6_lineLength C = some r) : Met l yX6_lineLength wsX6_lineLength rmX6_lineLength (va_Pc [.ref (q 0)] (wrP G (CW G q C) sz)) (va_Qi (fun v u => (v, u) = r) (fun u t => va_P G.1 vwCl (CW G q u) t.heap) (va_A (CW G q C) sz)) 0 0 (va_A (CW G q C) sz) := by
  refine Met.ofW (cc := cX6_lineLength) (maxL := 1) (ret := (some .int)) (by decide) rfl ?_
  intro p e s m args below meth c s₁ B hml hv
  obtain ⟨rfl, hsz, hP, hK, hD0⟩ := hv
  have bx := bx_of B hml
  subst hsz
  have hD := hD0.self (sz := s.heap.size)
  generalize hAe : va_A (CW G q C) s.heap.size = A at hD ⊢
  have hA : ∀ q : Nat, s.heap.size ≤ q → A q := fun q h => by rw [← hAe]; exact Or.inr h
  have hS : va_S A s.heap s.heap [] := va_S.rf
  obtain ⟨hx, hb, hr, hts, hown, hml, hlocks⟩ := id bx
  have hl := lv_entry ([.ref (q 0)]) (n := 1) (Nat.le_of_ble_eq_true rfl)
  rw [lg_entry_eq]
  generalize (lg_sl ([.ref (q 0)]) ++ List.replicate (1 - (lg_sl ([.ref (q 0)])).length) Slot.unset).toArray = ls at hl ⊢
  have hl : lv_has ls 1 [(0, .ref (q 0))] := hl
  show W p l e rmX6_lineLength s m _ below meth c s.heap [] 0 0 (MQi G (CW G q) A s _ below r) (F0 m 0 ls [])
  unfold pX6_lineLength at h
  refine lv_aload_n hx hb dX6_lineLength_0 rfl (lv_at hl 0 rfl) ?_
  obtain ⟨u_1, hu_1, h⟩ := bd_ex h
  refine wr_v (Wd := CW G q) (va_runV (As := []) (rest := []) ⟨hx, hb, hml, hown, hts⟩ (kX6_writeLine l G q C _ u_1 hu_1) (cwV 0 hts gX6_lineLength_X6_writeLine rfl rfl rfl (by decide +kernel) ⟨Nat.le_of_ble_eq_true rfl, Nat.le_of_ble_eq_true rfl⟩) (wrV hP hD hK 7 0 rfl rfl) rfl rfl hl.1 rfl (lv_room (Nat.le_of_ble_eq_true rfl)) dX6_lineLength_1 ⟨Nat.zero_le _, Nat.zero_le _⟩) hD hS hA (fun _ => rfl) (fun H locs hP hD hS => ?_)
  refine lv_aload_n hx hb dX6_lineLength_4 rfl (lv_at hl 0 rfl) ?_
  refine va_get (D := G.1) (ci := 7) (v := .ref (q 5)) (C := RX6) (T := TX6) (N := 7) hx hb hts in_wsX6_lineLength_X6 hown hK.1 hP 0 rfl rfl 4 (by decide) (w_mem hts 1 rfl) (fun _ h9 => h9) rfl dX6_lineLength_5 ?_
  refine va_getN (D := G.1) (ci := 3) (v := .int (u_1.1 9)) (C := RX1) (T := TX1) (N := 2) hx hb hts in_wsX6_lineLength_X1 hown hK.1 hP 5 rfl rfl 1 (by decide) (hK.2.at 45 rfl) (fun _ h9 => h9) rfl dX6_lineLength_8 ?_
  exact MQi.end hx hb hr hlocks hP hS dX6_lineLength_11 rfl h

def rmX6_knownShare : Room := { frames := 7, cells := 0, slots := 0, locals := 159 }

theorem in_wsX6_knownShare_X6 : ∀ w ∈ u_ws RX6 TX6 7, w ∈ wsX6_knownShare := by decide +kernel

theorem in_wsX6_knownShare_X5 : ∀ w ∈ u_ws RX5 TX5 6, w ∈ wsX6_knownShare := by decide +kernel

set_option maxHeartbeats 4000000 in
set_option maxRecDepth 100000 in
theorem kX6_knownShare (l : Launch) (G : GT) (q : Nat → Nat) (C : St) (sz : Nat) (r : UInt32 × St) (h : pX6_knownShare C = some r) : Met l yX6_knownShare wsX6_knownShare rmX6_knownShare (va_Pc [.ref (q 0)] (wrP G (CW G q C) sz)) (va_Qf (fun v u => (v, u) = r) (fun u t => va_P G.1 vwCl (CW G q u) t.heap) (va_A (CW G q C) sz)) 0 0 (va_A (CW G q C) sz) := by
  refine Met.ofW (cc := cX6_knownShare) (maxL := 3) (ret := (some .float)) (by decide) rfl ?_
  intro p e s m args below meth c s₁ B hml hv
  obtain ⟨rfl, hsz, hP, hK, hD0⟩ := hv
  have bx := bx_of B hml
  subst hsz
  have hD := hD0.self (sz := s.heap.size)
  generalize hAe : va_A (CW G q C) s.heap.size = A at hD ⊢
  have hA : ∀ q : Nat, s.heap.size ≤ q → A q := fun q h => by rw [← hAe]; exact Or.inr h
  have hS : va_S A s.heap s.heap [] := va_S.rf
  obtain ⟨hx, hb, hr, hts, hown, hml, hlocks⟩ := id bx
  have hl := lv_entry ([.ref (q 0)]) (n := 3) (Nat.le_of_ble_eq_true rfl)
  rw [lg_entry_eq]
  generalize (lg_sl ([.ref (q 0)]) ++ List.replicate (3 - (lg_sl ([.ref (q 0)])).length) Slot.unset).toArray = ls at hl ⊢
  have hl : lv_has ls 3 [(0, .ref (q 0))] := hl
  show W p l e rmX6_knownShare s m _ below meth c s.heap [] 0 0 (MQf G (CW G q) A s _ below r) (F0 m 0 ls [])
  unfold pX6_knownShare at h
  refine lv_aload_n hx hb dX6_knownShare_0 rfl (lv_at hl 0 rfl) ?_
  refine va_get (D := G.1) (ci := 7) (v := .ref (q 1)) (C := RX6) (T := TX6) (N := 7) hx hb hts in_wsX6_knownShare_X6 hown hK.1 hP 0 rfl rfl 0 (by decide) (w_mem hts 1 rfl) (fun _ h9 => h9) rfl dX6_knownShare_1 ?_
  refine va_getN (D := G.1) (ci := 6) (v := .int (C.1 3)) (C := RX5) (T := TX5) (N := 6) hx hb hts in_wsX6_knownShare_X5 hown hK.1 hP 1 rfl rfl 5 (by decide) (hK.2.at 33 rfl) (fun _ h9 => h9) rfl dX6_knownShare_4 ?_
  refine lv_topi (fun v_1 ev_1 => ?_)
  have h := ltv_at h v_1 ev_1
  refine lv_istore_n (lv' := [(1, .int v_1), (0, .ref (q 0))]) hx hb dX6_knownShare_7 rfl hl (by decide) rfl (fun ls hl => ?_)
  refine lv_iload_n hx hb dX6_knownShare_8 rfl (lv_at hl 0 rfl) ?_
  refine lv_aload_n hx hb dX6_knownShare_9 rfl (lv_at hl 1 rfl) ?_
  obtain ⟨u_2, hu_2, h⟩ := bd_ex h
  refine wr_i (Wd := CW G q) (va_runV (As := []) (rest := [.int v_1]) ⟨hx, hb, hml, hown, hts⟩ (kX6_countUnknown l G q C _ u_2 hu_2) (cwV 0 hts gX6_knownShare_X6_countUnknown rfl rfl rfl (by decide +kernel) ⟨Nat.le_of_ble_eq_true rfl, Nat.le_of_ble_eq_true rfl⟩) (wrV hP hD hK 7 0 rfl rfl) rfl rfl hl.1 rfl (lv_room (Nat.le_of_ble_eq_true rfl)) dX6_knownShare_10 ⟨Nat.zero_le _, Nat.zero_le _⟩) hD hS hA (fun _ => rfl) (fun H locs hP hD hS => ?_)
  refine lv_isub hx hb dX6_knownShare_13 ?_
  refine lv_topi (fun v_3 ev_3 => ?_)
  have h := ltv_at h v_3 ev_3
  refine lv_istore_n (lv' := [(2, .int v_3), (1, .int v_1), (0, .ref (q 0))]) hx hb dX6_knownShare_14 rfl hl (by decide) rfl (fun ls hl => ?_)
  refine lv_iload_n hx hb dX6_knownShare_15 rfl (lv_at hl 1 rfl) ?_
  refine lv_if_le (tgt := 27) hx hb dX6_knownShare_16 (by decide) (fun c_16 => ?_) (fun c_16 => ?_)
  · have h := br_T h c_16
    refine lv_fconst0 hx hb dX6_knownShare_27 ?_
    exact MQf.end hx hb hr hlocks hP hS dX6_knownShare_28 h
  · have h := br_F h c_16
    refine lv_iload_n hx hb dX6_knownShare_19 rfl (lv_at hl 0 rfl) ?_
    refine lv_i2f hx hb dX6_knownShare_20 ?_
    refine lv_iload_n hx hb dX6_knownShare_21 rfl (lv_at hl 1 rfl) ?_
    refine lv_i2f hx hb dX6_knownShare_22 ?_
    obtain ⟨g23, h⟩ := gd_ex h
    refine lv_fdiv hx hb dX6_knownShare_23 (okN32_n g23) ?_
    refine lv_goto (tgt := 28) hx hb dX6_knownShare_24 (by decide) ?_
    exact MQf.end hx hb hr hlocks hP hS dX6_knownShare_28 h

def rmX6_knowledgeAgrees : Room := { frames := 6, cells := 0, slots := 0, locals := 139 }

theorem in_wsX6_knowledgeAgrees_X6 : ∀ w ∈ u_ws RX6 TX6 7, w ∈ wsX6_knowledgeAgrees := by decide +kernel

theorem in_wsX6_knowledgeAgrees_X0 : ∀ w ∈ u_ws RX0 TX0 4, w ∈ wsX6_knowledgeAgrees := by decide +kernel

set_option maxHeartbeats 4000000 in
set_option maxRecDepth 100000 in
theorem kX6_knowledgeAgrees (l : Launch) (G : GT) (q : Nat → Nat) (C : St) (sz : Nat) (x1 : Int32) (x2 : Int32) (r : Int32 × St) (h : pX6_knowledgeAgrees C x1 x2 = some r) : Met l yX6_knowledgeAgrees wsX6_knowledgeAgrees rmX6_knowledgeAgrees (va_Pc [.ref (q 0), .int x1, .int x2] (wrP G (CW G q C) sz)) (va_Qi (fun v u => (v, u) = r) (fun u t => va_P G.1 vwCl (CW G q u) t.heap) (va_A (CW G q C) sz)) 0 0 (va_A (CW G q C) sz) := by
  refine Met.ofW (cc := cX6_knowledgeAgrees) (maxL := 3) (ret := (some .boolean)) (by decide) rfl ?_
  intro p e s m args below meth c s₁ B hml hv
  obtain ⟨rfl, hsz, hP, hK, hD0⟩ := hv
  have bx := bx_of B hml
  subst hsz
  have hD := hD0.self (sz := s.heap.size)
  generalize hAe : va_A (CW G q C) s.heap.size = A at hD ⊢
  have hA : ∀ q : Nat, s.heap.size ≤ q → A q := fun q h => by rw [← hAe]; exact Or.inr h
  have hS : va_S A s.heap s.heap [] := va_S.rf
  obtain ⟨hx, hb, hr, hts, hown, hml, hlocks⟩ := id bx
  have hl := lv_entry ([.ref (q 0), .int x1, .int x2]) (n := 3) (Nat.le_of_ble_eq_true rfl)
  rw [lg_entry_eq]
  generalize (lg_sl ([.ref (q 0), .int x1, .int x2]) ++ List.replicate (3 - (lg_sl ([.ref (q 0), .int x1, .int x2])).length) Slot.unset).toArray = ls at hl ⊢
  have hl : lv_has ls 3 [(0, .ref (q 0)), (1, .int x1), (2, .int x2)] := hl
  show W p l e rmX6_knowledgeAgrees s m _ below meth c s.heap [] 0 0 (MQi G (CW G q) A s _ below r) (F0 m 0 ls [])
  unfold pX6_knowledgeAgrees at h
  refine lv_aload_n hx hb dX6_knowledgeAgrees_0 rfl (lv_at hl 0 rfl) ?_
  obtain ⟨u_1, hu_1, h⟩ := bd_ex h
  refine wr_v (Wd := CW G q) (va_runV (As := []) (rest := []) ⟨hx, hb, hml, hown, hts⟩ (kX6_deduce l G q C _ u_1 hu_1) (cwV 0 hts gX6_knowledgeAgrees_X6_deduce rfl rfl rfl (by decide +kernel) ⟨Nat.le_of_ble_eq_true rfl, Nat.le_of_ble_eq_true rfl⟩) (wrV hP hD hK 7 0 rfl rfl) rfl rfl hl.1 rfl (lv_room (Nat.le_of_ble_eq_true rfl)) dX6_knowledgeAgrees_1 ⟨Nat.zero_le _, Nat.zero_le _⟩) hD hS hA (fun _ => rfl) (fun H locs hP hD hS => ?_)
  refine lv_aload_n hx hb dX6_knowledgeAgrees_4 rfl (lv_at hl 0 rfl) ?_
  refine va_get (D := G.1) (ci := 7) (v := .ref (q 4)) (C := RX6) (T := TX6) (N := 7) hx hb hts in_wsX6_knowledgeAgrees_X6 hown hK.1 hP 0 rfl rfl 3 (by decide) (w_mem hts 1 rfl) (fun _ h9 => h9) rfl dX6_knowledgeAgrees_5 ?_
  refine va_getN (D := G.1) (ci := 2) (v := .int (u_1.1 7)) (C := RX0) (T := TX0) (N := 4) hx hb hts in_wsX6_knowledgeAgrees_X0 hown hK.1 hP 4 rfl rfl 2 (by decide) (hK.2.at 40 rfl) (fun _ h9 => h9) rfl dX6_knowledgeAgrees_8 ?_
  refine lv_iload_n hx hb dX6_knowledgeAgrees_11 rfl (lv_at hl 1 rfl) ?_
  refine lv_iconst (v := (-1)) hx hb dX6_knowledgeAgrees_12 (by decide) ?_
  refine lv_ixor hx hb dX6_knowledgeAgrees_13 ?_
  refine lv_iand hx hb dX6_knowledgeAgrees_14 ?_
  refine lv_if_ne (tgt := 34) hx hb dX6_knowledgeAgrees_15 (by decide) (fun c_15 => ?_) (fun c_15 => ?_)
  · have h := br_F h c_15
    refine lv_iconst (v := 0) hx hb dX6_knowledgeAgrees_34 (by decide) ?_
    exact MQi.end hx hb hr hlocks hP hS dX6_knowledgeAgrees_35 rfl h
  · have h := br_T h c_15
    refine lv_aload_n hx hb dX6_knowledgeAgrees_18 rfl (lv_at hl 0 rfl) ?_
    refine va_get (D := G.1) (ci := 7) (v := .ref (q 4)) (C := RX6) (T := TX6) (N := 7) hx hb hts in_wsX6_knowledgeAgrees_X6 hown hK.1 hP 0 rfl rfl 3 (by decide) (w_mem hts 1 rfl) (fun _ h9 => h9) rfl dX6_knowledgeAgrees_19 ?_
    refine va_getN (D := G.1) (ci := 2) (v := .int (u_1.1 8)) (C := RX0) (T := TX0) (N := 4) hx hb hts in_wsX6_knowledgeAgrees_X0 hown hK.1 hP 4 rfl rfl 3 (by decide) (hK.2.at 41 rfl) (fun _ h9 => h9) rfl dX6_knowledgeAgrees_22 ?_
    refine lv_iload_n hx hb dX6_knowledgeAgrees_25 rfl (lv_at hl 2 rfl) ?_
    refine lv_iand hx hb dX6_knowledgeAgrees_26 ?_
    refine lv_if_ne (tgt := 34) hx hb dX6_knowledgeAgrees_27 (by decide) (fun c_27 => ?_) (fun c_27 => ?_)
    · have h := br_F h c_27
      refine lv_iconst (v := 0) hx hb dX6_knowledgeAgrees_34 (by decide) ?_
      exact MQi.end hx hb hr hlocks hP hS dX6_knowledgeAgrees_35 rfl h
    · have h := br_T h c_27
      refine lv_iconst (v := 1) hx hb dX6_knowledgeAgrees_30 (by decide) ?_
      refine lv_goto (tgt := 35) hx hb dX6_knowledgeAgrees_31 (by decide) ?_
      exact MQi.end hx hb hr hlocks hP hS dX6_knowledgeAgrees_35 rfl h

def rmX6_meanPrice : Room := { frames := 5, cells := 0, slots := 0, locals := 110 }

theorem in_wsX6_meanPrice_X6 : ∀ w ∈ u_ws RX6 TX6 7, w ∈ wsX6_meanPrice := by decide +kernel

set_option maxHeartbeats 4000000 in
set_option maxRecDepth 100000 in
theorem wX6_meanPrice_49 {p : Program} {l : Launch} {e : Env} {s : State} {m : MethodId} {args : Array Value} {below : List Frame} {meth : Method} {c : Code} {G : GT} {q : Nat → Nat} {C : St} {out : UInt64} (bx : BX p RX6 wsX6_meanPrice cX6_meanPrice 7 (some .double) s m args meth c) (hP : va_P G.1 vwCl (CW G q C) s.heap) (hK : CK G s) {k16 : St → Int64 → Int64 → Int32 → Int32 → Option (UInt64)} (hk16 : ∀ (x1 : Int64) (x3 : Int64) (x5 : Int32) (x6 : Int32), k16 C x1 x3 x5 x6 = some out → ∀ (ls : Array Slot), lv_has ls 7 [(0, .ref (q 0)), (1, .long x1), (3, .long x3), (5, .int x5), (6, .int x6)] → GoD p l e rmX6_meanPrice s m args below meth c out (F0 m 16 ls [])) (x1 : Int64) (x3 : Int64) (x5 : Int32) (x6 : Int32) (h : pX6_meanPrice_49 k16 C x1 x3 x5 x6 = some out) (ls : Array Slot) (hl : lv_has ls 7 [(0, .ref (q 0)), (1, .long x1), (3, .long x3), (5, .int x5), (6, .int x6)]) : GoD p l e rmX6_meanPrice s m args below meth c out (F0 m 49 ls []) := by
  obtain ⟨hx, hb, hr, hts, hown, hml, hlocks⟩ := id bx
  unfold pX6_meanPrice_49 at h
  obtain ⟨v_3, ev_3, h⟩ := ltv_ex h
  refine lv_iinc (v := v_3) (lv' := [(6, .int v_3), (0, .ref (q 0)), (1, .long x1), (3, .long x3), (5, .int x5)]) hx hb dX6_meanPrice_49 hl (k := 4) rfl (by rw [ev_3]; rfl) (by decide) rfl (fun ls hl => ?_)
  refine lv_goto (tgt := 16) hx hb dX6_meanPrice_52 (by decide) ?_
  exact hk16 x1 x3 x5 v_3 h _ (lv_sub hl [1, 2, 3, 4, 0] rfl)

set_option maxHeartbeats 4000000 in
set_option maxRecDepth 100000 in
theorem wX6_meanPrice_16_b {p : Program} {l : Launch} {e : Env} {s : State} {m : MethodId} {args : Array Value} {below : List Frame} {meth : Method} {c : Code} {G : GT} {q : Nat → Nat} {C : St} {out : UInt64} (bx : BX p RX6 wsX6_meanPrice cX6_meanPrice 7 (some .double) s m args meth c) (hP : va_P G.1 vwCl (CW G q C) s.heap) (hK : CK G s) {k16 : St → Int64 → Int64 → Int32 → Int32 → Option (UInt64)} (hk16 : ∀ (x1 : Int64) (x3 : Int64) (x5 : Int32) (x6 : Int32), k16 C x1 x3 x5 x6 = some out → ∀ (ls : Array Slot), lv_has ls 7 [(0, .ref (q 0)), (1, .long x1), (3, .long x3), (5, .int x5), (6, .int x6)] → GoD p l e rmX6_meanPrice s m args below meth c out (F0 m 16 ls [])) (x1 : Int64) (x3 : Int64) (x5 : Int32) (x6 : Int32) (h : pX6_meanPrice_16_b k16 C x1 x3 x5 x6 = some out) (ls : Array Slot) (hl : lv_has ls 7 [(0, .ref (q 0)), (1, .long x1), (3, .long x3), (5, .int x5), (6, .int x6)]) : GoD p l e rmX6_meanPrice s m args below meth c out (F0 m 16 ls []) := by
  obtain ⟨hx, hb, hr, hts, hown, hml, hlocks⟩ := id bx
  unfold pX6_meanPrice_16_b at h
  refine lv_iload hx hb dX6_meanPrice_16 (lv_at hl 4 rfl) ?_
  refine lv_iload hx hb dX6_meanPrice_18 (lv_at hl 3 rfl) ?_
  refine lv_icmp_gt (tgt := 55) hx hb dX6_meanPrice_20 (by decide) (fun c_20 => ?_) (fun c_20 => ?_)
  · have h := br_T h c_20
    refine lv_lload_n hx hb dX6_meanPrice_55 rfl (lv_at hl 2 rfl) ?_
    refine lv_lconst (v := 0) hx hb dX6_meanPrice_56 (by decide) ?_
    refine W.lcmp hx hb dX6_meanPrice_57 ?_
    refine lv_if_le (tgt := 69) hx hb dX6_meanPrice_58 (by decide) (fun c_58 => ?_) (fun c_58 => ?_)
    · have h := br_T h c_58
      refine lv_dconst0 hx hb dX6_meanPrice_69 ?_
      exact GoD.end hx hb hr hlocks dX6_meanPrice_70 h
    · have h := br_F h c_58
      refine lv_lload_n hx hb dX6_meanPrice_61 rfl (lv_at hl 1 rfl) ?_
      refine lv_l2d hx hb dX6_meanPrice_62 ?_
      refine lv_lload_n hx hb dX6_meanPrice_63 rfl (lv_at hl 2 rfl) ?_
      refine lv_l2d hx hb dX6_meanPrice_64 ?_
      obtain ⟨g65, h⟩ := gd_ex h
      refine lv_ddiv hx hb dX6_meanPrice_65 (okN64_n g65) ?_
      refine lv_goto (tgt := 70) hx hb dX6_meanPrice_66 (by decide) ?_
      exact GoD.end hx hb hr hlocks dX6_meanPrice_70 h
  · have h := br_F h c_20
    refine lv_aload_n hx hb dX6_meanPrice_23 rfl (lv_at hl 0 rfl) ?_
    refine lv_iload hx hb dX6_meanPrice_24 (lv_at hl 4 rfl) ?_
    obtain ⟨r_2, hr_2, h⟩ := bd_ex h
    refine ro_i (va_runV (As := [.int x6]) (rest := []) ⟨hx, hb, hml, hown, hts⟩ (kX6_isCompletion l G q C x6 r_2 hr_2) (cwV 1 hts gX6_meanPrice_X6_isCompletion rfl rfl rfl (by decide +kernel) ⟨Nat.le_of_ble_eq_true rfl, Nat.le_of_ble_eq_true rfl⟩) (roV hP hK 7 0 rfl rfl) rfl rfl hl.1 rfl (lv_room (Nat.le_of_ble_eq_true rfl)) dX6_meanPrice_26 ⟨Nat.zero_le _, Nat.zero_le _⟩) ?_
    refine lv_if_eq (tgt := 49) hx hb dX6_meanPrice_29 (by decide) (fun c_29 => ?_) (fun c_29 => ?_)
    · have h := br_T h c_29
      exact wX6_meanPrice_49 bx hP hK hk16 x1 x3 x5 x6 h _ (lv_sub hl [0, 1, 2, 3, 4] rfl)
    · have h := br_F h c_29
      refine lv_lload_n hx hb dX6_meanPrice_32 rfl (lv_at hl 1 rfl) ?_
      refine lv_aload_n hx hb dX6_meanPrice_33 rfl (lv_at hl 0 rfl) ?_
      refine va_get (D := G.1) (ci := 7) (v := .ref (q 3)) (C := RX6) (T := TX6) (N := 7) hx hb hts in_wsX6_meanPrice_X6 hown hK.1 hP 0 rfl rfl 2 (by decide) (w_mem hts 2 rfl) (fun _ h9 => h9) rfl dX6_meanPrice_34 ?_
      refine lv_iload hx hb dX6_meanPrice_37 (lv_at hl 4 rfl) ?_
      obtain ⟨r_4, hr_4, h⟩ := bd_ex h
      refine ro_i (va_runVN (As := [.int x6]) (rest := [.long x1]) ⟨hx, hb, hml, hown, hts⟩ (kX2_ofSet l G q C x6 r_4 hr_4) ⟨va_cnB 1 hts gX6_meanPrice_X2_ofSet_n220 rfl rfl rfl (hK.2.nw 11 rfl) (w_mem hts 54 rfl) (by decide +kernel) ⟨Nat.le_of_ble_eq_true rfl, Nat.le_of_ble_eq_true rfl⟩, (w_mem hts 53 rfl), (w_mem hts 55 rfl)⟩ (roV hP hK 4 3 rfl rfl) rfl rfl hl.1 rfl (lv_room (Nat.le_of_ble_eq_true rfl)) dX6_meanPrice_39 ⟨Nat.zero_le _, Nat.zero_le _⟩) ?_
      refine lv_i2l (v := r_4.toInt64) hx hb dX6_meanPrice_42 rfl ?_
      refine lv_ladd hx hb dX6_meanPrice_43 ?_
      refine lv_topl (fun v_5 ev_5 => ?_)
      have h := ltv_at h v_5 ev_5
      refine lv_lstore_n (lv' := [(1, .long v_5), (0, .ref (q 0)), (3, .long x3), (5, .int x5), (6, .int x6)]) hx hb dX6_meanPrice_44 rfl hl (by decide) rfl (fun ls hl => ?_)
      refine lv_lload_n hx hb dX6_meanPrice_45 rfl (lv_at hl 2 rfl) ?_
      refine lv_lconst (v := 1) hx hb dX6_meanPrice_46 (by decide) ?_
      refine lv_ladd hx hb dX6_meanPrice_47 ?_
      refine lv_topl (fun v_6 ev_6 => ?_)
      have h := ltv_at h v_6 ev_6
      refine lv_lstore_n (lv' := [(3, .long v_6), (1, .long v_5), (0, .ref (q 0)), (5, .int x5), (6, .int x6)]) hx hb dX6_meanPrice_48 rfl hl (by decide) rfl (fun ls hl => ?_)
      exact wX6_meanPrice_49 bx hP hK hk16 v_5 v_6 x5 x6 h _ (lv_sub hl [2, 1, 0, 3, 4] rfl)

theorem wX6_meanPrice_16 {p : Program} {l : Launch} {e : Env} {s : State} {m : MethodId} {args : Array Value} {below : List Frame} {meth : Method} {c : Code} {G : GT} {q : Nat → Nat} {C : St} {out : UInt64} (bx : BX p RX6 wsX6_meanPrice cX6_meanPrice 7 (some .double) s m args meth c) (hP : va_P G.1 vwCl (CW G q C) s.heap) (hK : CK G s) :
    ∀ (n : Nat) (x1 : Int64) (x3 : Int64) (x5 : Int32) (x6 : Int32), pX6_meanPrice_16 n C x1 x3 x5 x6 = some out → ∀ (ls : Array Slot), lv_has ls 7 [(0, .ref (q 0)), (1, .long x1), (3, .long x3), (5, .int x5), (6, .int x6)] → GoD p l e rmX6_meanPrice s m args below meth c out (F0 m 16 ls []) := by
  intro n
  induction n with
  | zero => intro _ _ _ _ h; cases h
  | succ n ih => exact fun a0 a1 a2 a3 h ls hl => wX6_meanPrice_16_b bx hP hK ih a0 a1 a2 a3 h ls hl

set_option maxHeartbeats 4000000 in
set_option maxRecDepth 100000 in
theorem kX6_meanPrice (l : Launch) (G : GT) (q : Nat → Nat) (C : St) (r : UInt64) (h : pX6_meanPrice C = some r) : Met l yX6_meanPrice wsX6_meanPrice rmX6_meanPrice (va_Pc [.ref (q 0)] (roP G (CW G q C))) (vp_Sd (fun v => v = r)) 0 0 (fun _ => False) := by
  refine Met.ofW (cc := cX6_meanPrice) (maxL := 7) (ret := (some .double)) (by decide) rfl ?_
  intro p e s m args below meth c s₁ B hml hv
  obtain ⟨rfl, hP, hK⟩ := hv
  have bx := bx_of B hml
  obtain ⟨hx, hb, hr, hts, hown, hml, hlocks⟩ := id bx
  have hl := lv_entry ([.ref (q 0)]) (n := 7) (Nat.le_of_ble_eq_true rfl)
  rw [lg_entry_eq]
  generalize (lg_sl ([.ref (q 0)]) ++ List.replicate (7 - (lg_sl ([.ref (q 0)])).length) Slot.unset).toArray = ls at hl ⊢
  have hl : lv_has ls 7 [(0, .ref (q 0))] := hl
  show GoD p l e rmX6_meanPrice s m _ below meth c r (F0 m 0 ls [])
  unfold pX6_meanPrice at h
  refine lv_lconst (v := 0) hx hb dX6_meanPrice_0 (by decide) ?_
  refine lv_lstore_n (lv' := [(1, .long 0), (0, .ref (q 0))]) hx hb dX6_meanPrice_1 rfl hl (by decide) rfl (fun ls hl => ?_)
  refine lv_lconst (v := 0) hx hb dX6_meanPrice_2 (by decide) ?_
  refine lv_lstore_n (lv' := [(3, .long 0), (1, .long 0), (0, .ref (q 0))]) hx hb dX6_meanPrice_3 rfl hl (by decide) rfl (fun ls hl => ?_)
  refine lv_aload_n hx hb dX6_meanPrice_4 rfl (lv_at hl 2 rfl) ?_
  refine va_get (D := G.1) (ci := 7) (v := .ref (q 1)) (C := RX6) (T := TX6) (N := 7) hx hb hts in_wsX6_meanPrice_X6 hown hK.1 hP 0 rfl rfl 0 (by decide) (w_mem hts 1 rfl) (fun _ h9 => h9) rfl dX6_meanPrice_5 ?_
  obtain ⟨r_1, hr_1, h⟩ := bd_ex h
  refine ro_i (va_runVN (As := []) (rest := []) ⟨hx, hb, hml, hown, hts⟩ (kX5_allFeatures l G q C r_1 hr_1) ⟨va_cnB 0 hts gX6_meanPrice_X5_allFeatures_n200 rfl rfl rfl (hK.2.nw 10 rfl) (w_mem hts 4 rfl) (by decide +kernel) ⟨Nat.le_of_ble_eq_true rfl, Nat.le_of_ble_eq_true rfl⟩, (w_mem hts 3 rfl), (w_mem hts 5 rfl)⟩ (roV hP hK 6 1 rfl rfl) rfl rfl hl.1 rfl (lv_room (Nat.le_of_ble_eq_true rfl)) dX6_meanPrice_8 ⟨Nat.zero_le _, Nat.zero_le _⟩) ?_
  refine lv_istore (lv' := [(5, .int r_1), (3, .long 0), (1, .long 0), (0, .ref (q 0))]) hx hb dX6_meanPrice_11 hl (by decide) rfl (fun ls hl => ?_)
  refine lv_iconst (v := 0) hx hb dX6_meanPrice_13 (by decide) ?_
  refine lv_istore (lv' := [(6, .int 0), (5, .int r_1), (3, .long 0), (1, .long 0), (0, .ref (q 0))]) hx hb dX6_meanPrice_14 hl (by decide) rfl (fun ls hl => ?_)
  exact wX6_meanPrice_16 bx hP hK FU 0 0 r_1 0 h _ (lv_sub hl [4, 3, 2, 1, 0] rfl)
