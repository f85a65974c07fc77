def rmX0_knows : Room := { frames := 1, cells := 0, slots := 0, locals := 21 }

theorem in_wsX0_knows_X0 : ∀ w ∈ u_ws RX0 TX0 4, w ∈ wsX0_knows := by decide +kernel

set_option maxHeartbeats 4000000 in
set_option maxRecDepth 100000 in
theorem kX0_knows (l : Launch) (G : GT) (q : Nat → Nat) (C : St) (x1 : Int32) (r : Int32) (h : pX0_knows C x1 = some r) : Met l yX0_knows wsX0_knows rmX0_knows (va_Pc [.ref (q 4), .int x1] (roP G (CW G q C))) (vp_Si (fun v => v = r)) 0 0 (fun _ => False) := by
  refine Met.ofW (cc := cX0_knows) (maxL := 2) (ret := (some .boolean)) (by decide) rfl ?_
  intro p e s m args below meth c s₁ B hml hv
  obtain ⟨rfl, hP, hK⟩ := hv
  have bx := bx_of B hml
  obtain ⟨hx, hb, hr, hts, hown, hml, hlocks⟩ := id bx
  have hl := lv_entry ([.ref (q 4), .int x1]) (n := 2) (Nat.le_of_ble_eq_true rfl)
  rw [lg_entry_eq]
  generalize (lg_sl ([.ref (q 4), .int x1]) ++ List.replicate (2 - (lg_sl ([.ref (q 4), .int x1])).length) Slot.unset).toArray = ls at hl ⊢
  have hl : lv_has ls 2 [(0, .ref (q 4)), (1, .int x1)] := hl
  show GoI p l e rmX0_knows s m _ below meth c r (F0 m 0 ls [])
  unfold pX0_knows at h
  refine lv_aload_n hx hb dX0_knows_0 rfl (lv_at hl 0 rfl) ?_
  refine va_get (D := G.1) (ci := 0) (v := .int (C.1 7)) (C := RX0) (T := TX0) (N := 4) hx hb hts in_wsX0_knows_X0 hown hK.1 hP 4 rfl rfl 2 (by decide) (w_mem hts 1 rfl) (fun _ h9 => h9) rfl dX0_knows_1 ?_
  refine lv_aload_n hx hb dX0_knows_4 rfl (lv_at hl 0 rfl) ?_
  refine va_get (D := G.1) (ci := 0) (v := .int (C.1 8)) (C := RX0) (T := TX0) (N := 4) hx hb hts in_wsX0_knows_X0 hown hK.1 hP 4 rfl rfl 3 (by decide) (w_mem hts 2 rfl) (fun _ h9 => h9) rfl dX0_knows_5 ?_
  refine lv_ior hx hb dX0_knows_8 ?_
  refine lv_iload_n hx hb dX0_knows_9 rfl (lv_at hl 1 rfl) ?_
  obtain ⟨r_1, hr_1, h⟩ := bd_ex h
  refine ro_i (va_runSN (As := [.int ((C.1 7) ||| (C.1 8)), .int x1]) (rest := []) ⟨hx, hb, hml, hown, hts⟩ (kX6_has l G q C ((C.1 7) ||| (C.1 8)) x1 r_1 hr_1) ⟨va_cnB 2 hts gX0_knows_X6_has_n31 rfl rfl rfl (hK.2.nw 15 rfl) (w_mem hts 4 rfl) (by decide +kernel) ⟨Nat.le_of_ble_eq_true rfl, Nat.le_of_ble_eq_true rfl⟩, (w_mem hts 3 rfl), trivial⟩ (roS hP hK) rfl rfl hl.1 rfl (lv_room (Nat.le_of_ble_eq_true rfl)) dX0_knows_10 ⟨Nat.zero_le _, Nat.zero_le _⟩) ?_
  obtain ⟨g13, h⟩ := gd_ex h
  exact GoI.end hx hb hr hlocks dX0_knows_13 (okZ_n g13) h

def rmX0_letterByKin : Room := { frames := 1, cells := 0, slots := 0, locals := 21 }

theorem in_wsX0_letterByKin_X5 : ∀ w ∈ u_ws RX5 TX5 6, w ∈ wsX0_letterByKin := by decide +kernel

theorem in_wsX0_letterByKin_X0 : ∀ w ∈ u_ws RX0 TX0 4, w ∈ wsX0_letterByKin := by decide +kernel

set_option maxHeartbeats 4000000 in
set_option maxRecDepth 100000 in
theorem wX0_letterByKin_78 {p : Program} {l : Launch} {e : Env} {s : State} {m : MethodId} {args : Array Value} {below : List Frame} {meth : Method} {c : Code} {G : GT} {q : Nat → Nat} {C : St} {out : Int32} (bx : BX p RX0 wsX0_letterByKin cX0_letterByKin 5 (some .char) s m args meth c) (hP : va_P G.1 vwCl (CW G q C) s.heap) (hK : CK G s) (x3 : Int32) (h : pX0_letterByKin_78 C x3 = some out) (ls : Array Slot) (hl : lv_has ls 5 [(0, .ref (q 4)), (1, .ref (q 1)), (3, .int x3)]) : GoI p l e rmX0_letterByKin s m args below meth c out (F0 m 78 ls []) := by
  obtain ⟨hx, hb, hr, hts, hown, hml, hlocks⟩ := id bx
  unfold pX0_letterByKin_78 at h
  refine lv_iload_n hx hb dX0_letterByKin_78 rfl (lv_at hl 2 rfl) ?_
  refine lv_aload_n hx hb dX0_letterByKin_79 rfl (lv_at hl 1 rfl) ?_
  refine va_getN (D := G.1) (ci := 4) (v := .int (C.1 2)) (C := RX5) (T := TX5) (N := 6) hx hb hts in_wsX0_letterByKin_X5 hown hK.1 hP 1 rfl rfl 4 (by decide) (hK.2.at 36 rfl) (fun _ h9 => h9) rfl dX0_letterByKin_80 ?_
  refine lv_iand hx hb dX0_letterByKin_83 ?_
  refine lv_aload_n hx hb dX0_letterByKin_84 rfl (lv_at hl 0 rfl) ?_
  refine va_get (D := G.1) (ci := 0) (v := .int (C.1 8)) (C := RX0) (T := TX0) (N := 4) hx hb hts in_wsX0_letterByKin_X0 hown hK.1 hP 4 rfl rfl 3 (by decide) (w_mem hts 2 rfl) (fun _ h9 => h9) rfl dX0_letterByKin_85 ?_
  refine lv_iand hx hb dX0_letterByKin_88 ?_
  refine lv_if_eq (tgt := 97) hx hb dX0_letterByKin_89 (by decide) (fun c_89 => ?_) (fun c_89 => ?_)
  · have h := br_T h c_89
    refine lv_bipush (v := 32) hx hb dX0_letterByKin_97 (by decide) ?_
    exact GoI.end hx hb hr hlocks dX0_letterByKin_99 rfl h
  · have h := br_F h c_89
    refine lv_bipush (v := 107) hx hb dX0_letterByKin_92 (by decide) ?_
    refine lv_goto (tgt := 99) hx hb dX0_letterByKin_94 (by decide) ?_
    exact GoI.end hx hb hr hlocks dX0_letterByKin_99 rfl h

set_option maxHeartbeats 4000000 in
set_option maxRecDepth 100000 in
theorem wX0_letterByKin_47 {p : Program} {l : Launch} {e : Env} {s : State} {m : MethodId} {args : Array Value} {below : List Frame} {meth : Method} {c : Code} {G : GT} {q : Nat → Nat} {C : St} {out : Int32} (bx : BX p RX0 wsX0_letterByKin cX0_letterByKin 5 (some .char) s m args meth c) (hP : va_P G.1 vwCl (CW G q C) s.heap) (hK : CK G s) (x2 : Int32) (x3 : Int32) (x4 : Int32) (h : pX0_letterByKin_47 C x2 x3 x4 = some out) (ls : Array Slot) (hl : lv_has ls 5 [(0, .ref (q 4)), (1, .ref (q 1)), (2, .int x2), (3, .int x3), (4, .int x4)]) : GoI p l e rmX0_letterByKin s m args below meth c out (F0 m 47 ls []) := by
  obtain ⟨hx, hb, hr, hts, hown, hml, hlocks⟩ := id bx
  unfold pX0_letterByKin_47 at h
  refine lv_iload hx hb dX0_letterByKin_47 (lv_at hl 4 rfl) ?_
  refine lv_if_lt (tgt := 78) hx hb dX0_letterByKin_49 (by decide) (fun c_49 => ?_) (fun c_49 => ?_)
  · have h := br_T h c_49
    exact wX0_letterByKin_78 bx hP hK x3 h _ (lv_sub hl [0, 1, 3] rfl)
  · have h := br_F h c_49
    refine lv_aload_n hx hb dX0_letterByKin_52 rfl (lv_at hl 0 rfl) ?_
    refine va_get (D := G.1) (ci := 0) (v := .int (C.1 7)) (C := RX0) (T := TX0) (N := 4) hx hb hts in_wsX0_letterByKin_X0 hown hK.1 hP 4 rfl rfl 2 (by decide) (w_mem hts 1 rfl) (fun _ h9 => h9) rfl dX0_letterByKin_53 ?_
    refine lv_iload hx hb dX0_letterByKin_56 (lv_at hl 4 rfl) ?_
    obtain ⟨r_3, hr_3, h⟩ := bd_ex h
    refine ro_i (va_runSN (As := [.int (C.1 7), .int x4]) (rest := []) ⟨hx, hb, hml, hown, hts⟩ (kX6_has l G q C (C.1 7) x4 r_3 hr_3) ⟨va_cnB 2 hts gX0_letterByKin_X6_has_n31 rfl rfl rfl (hK.2.nw 15 rfl) (w_mem hts 4 rfl) (by decide +kernel) ⟨Nat.le_of_ble_eq_true rfl, Nat.le_of_ble_eq_true rfl⟩, (w_mem hts 3 rfl), trivial⟩ (roS hP hK) rfl rfl hl.1 rfl (lv_room (Nat.le_of_ble_eq_true rfl)) dX0_letterByKin_58 ⟨Nat.zero_le _, Nat.zero_le _⟩) ?_
    refine lv_if_eq (tgt := 78) hx hb dX0_letterByKin_61 (by decide) (fun c_61 => ?_) (fun c_61 => ?_)
    · have h := br_T h c_61
      exact wX0_letterByKin_78 bx hP hK x3 h _ (lv_sub hl [0, 1, 3] rfl)
    · have h := br_F h c_61
      refine lv_aload_n hx hb dX0_letterByKin_64 rfl (lv_at hl 1 rfl) ?_
      refine va_getN (D := G.1) (ci := 4) (v := .int (C.1 2)) (C := RX5) (T := TX5) (N := 6) hx hb hts in_wsX0_letterByKin_X5 hown hK.1 hP 1 rfl rfl 4 (by decide) (hK.2.at 36 rfl) (fun _ h9 => h9) rfl dX0_letterByKin_65 ?_
      refine lv_iload_n hx hb dX0_letterByKin_68 rfl (lv_at hl 2 rfl) ?_
      obtain ⟨r_4, hr_4, h⟩ := bd_ex h
      refine ro_i (va_runSN (As := [.int (C.1 2), .int x2]) (rest := []) ⟨hx, hb, hml, hown, hts⟩ (kX6_has l G q C (C.1 2) x2 r_4 hr_4) ⟨va_cnB 2 hts gX0_letterByKin_X6_has_n31 rfl rfl rfl (hK.2.nw 15 rfl) (w_mem hts 4 rfl) (by decide +kernel) ⟨Nat.le_of_ble_eq_true rfl, Nat.le_of_ble_eq_true rfl⟩, (w_mem hts 3 rfl), trivial⟩ (roS hP hK) rfl rfl hl.1 rfl (lv_room (Nat.le_of_ble_eq_true rfl)) dX0_letterByKin_69 ⟨Nat.zero_le _, Nat.zero_le _⟩) ?_
      refine lv_if_eq (tgt := 78) hx hb dX0_letterByKin_72 (by decide) (fun c_72 => ?_) (fun c_72 => ?_)
      · have h := br_T h c_72
        exact wX0_letterByKin_78 bx hP hK x3 h _ (lv_sub hl [0, 1, 3] rfl)
      · have h := br_F h c_72
        refine lv_bipush (v := 109) hx hb dX0_letterByKin_75 (by decide) ?_
        exact GoI.end hx hb hr hlocks dX0_letterByKin_77 rfl h

set_option maxHeartbeats 4000000 in
set_option maxRecDepth 100000 in
theorem kX0_letterByKin (l : Launch) (G : GT) (q : Nat → Nat) (C : St) (x2 : Int32) (r : Int32) (h : pX0_letterByKin C x2 = some r) : Met l yX0_letterByKin wsX0_letterByKin rmX0_letterByKin (va_Pc [.ref (q 4), .ref (q 1), .int x2] (roP G (CW G q C))) (vp_Si (fun v => v = r)) 0 0 (fun _ => False) := by
  refine Met.ofW (cc := cX0_letterByKin) (maxL := 5) (ret := (some .char)) (by decide) rfl ?_
  intro p e s m args below meth c s₁ B hml hv
  obtain ⟨rfl, hP, hK⟩ := hv
  have bx := bx_of B hml
  obtain ⟨hx, hb, hr, hts, hown, hml, hlocks⟩ := id bx
  have hl := lv_entry ([.ref (q 4), .ref (q 1), .int x2]) (n := 5) (Nat.le_of_ble_eq_true rfl)
  rw [lg_entry_eq]
  generalize (lg_sl ([.ref (q 4), .ref (q 1), .int x2]) ++ List.replicate (5 - (lg_sl ([.ref (q 4), .ref (q 1), .int x2])).length) Slot.unset).toArray = ls at hl ⊢
  have hl : lv_has ls 5 [(0, .ref (q 4)), (1, .ref (q 1)), (2, .int x2)] := hl
  show GoI p l e rmX0_letterByKin s m _ below meth c r (F0 m 0 ls [])
  unfold pX0_letterByKin at h
  refine lv_aload_n hx hb dX0_letterByKin_0 rfl (lv_at hl 1 rfl) ?_
  refine va_getN (D := G.1) (ci := 4) (v := .ref (q 7)) (C := RX5) (T := TX5) (N := 6) hx hb hts in_wsX0_letterByKin_X5 hown hK.1 hP 1 rfl rfl 1 (by decide) (hK.2.at 34 rfl) (fun _ h9 => h9) rfl dX0_letterByKin_1 ?_
  refine lv_iload_n hx hb dX0_letterByKin_4 rfl (lv_at hl 2 rfl) ?_
  obtain ⟨g5, h⟩ := gd_ex h
  refine va_iald (D := G.1) hx hb hK.1 hP 7 0 rfl rfl g5 dX0_letterByKin_5 ?_
  refine lv_topi (fun v_1 ev_1 => ?_)
  have h := ltv_at h v_1 ev_1
  refine lv_istore_n (lv' := [(3, .int v_1), (0, .ref (q 4)), (1, .ref (q 1)), (2, .int x2)]) hx hb dX0_letterByKin_6 rfl hl (by decide) rfl (fun ls hl => ?_)
  refine lv_aload_n hx hb dX0_letterByKin_7 rfl (lv_at hl 2 rfl) ?_
  refine va_getN (D := G.1) (ci := 4) (v := .ref (q 6)) (C := RX5) (T := TX5) (N := 6) hx hb hts in_wsX0_letterByKin_X5 hown hK.1 hP 1 rfl rfl 0 (by decide) (hK.2.at 35 rfl) (fun _ h9 => h9) rfl dX0_letterByKin_8 ?_
  refine lv_iload_n hx hb dX0_letterByKin_11 rfl (lv_at hl 3 rfl) ?_
  obtain ⟨g12, h⟩ := gd_ex h
  refine va_iald (D := G.1) hx hb hK.1 hP 6 0 rfl rfl g12 dX0_letterByKin_12 ?_
  refine lv_topi (fun v_2 ev_2 => ?_)
  have h := ltv_at h v_2 ev_2
  refine lv_istore (lv' := [(4, .int v_2), (3, .int v_1), (0, .ref (q 4)), (1, .ref (q 1)), (2, .int x2)]) hx hb dX0_letterByKin_13 hl (by decide) rfl (fun ls hl => ?_)
  refine lv_iload_n hx hb dX0_letterByKin_15 rfl (lv_at hl 1 rfl) ?_
  refine lv_aload_n hx hb dX0_letterByKin_16 rfl (lv_at hl 2 rfl) ?_
  refine va_get (D := G.1) (ci := 0) (v := .int (C.1 7)) (C := RX0) (T := TX0) (N := 4) hx hb hts in_wsX0_letterByKin_X0 hown hK.1 hP 4 rfl rfl 2 (by decide) (w_mem hts 1 rfl) (fun _ h9 => h9) rfl dX0_letterByKin_17 ?_
  refine lv_iand hx hb dX0_letterByKin_20 ?_
  refine lv_if_eq (tgt := 27) hx hb dX0_letterByKin_21 (by decide) (fun c_21 => ?_) (fun c_21 => ?_)
  · have h := br_T h c_21
    refine lv_iload hx hb dX0_letterByKin_27 (lv_at hl 0 rfl) ?_
    refine lv_if_lt (tgt := 47) hx hb dX0_letterByKin_29 (by decide) (fun c_29 => ?_) (fun c_29 => ?_)
    · have h := br_T h c_29
      exact wX0_letterByKin_47 bx hP hK x2 v_1 v_2 h _ (lv_sub hl [2, 3, 4, 1, 0] rfl)
    · have h := br_F h c_29
      refine lv_aload_n hx hb dX0_letterByKin_32 rfl (lv_at hl 2 rfl) ?_
      refine va_get (D := G.1) (ci := 0) (v := .int (C.1 8)) (C := RX0) (T := TX0) (N := 4) hx hb hts in_wsX0_letterByKin_X0 hown hK.1 hP 4 rfl rfl 3 (by decide) (w_mem hts 2 rfl) (fun _ h9 => h9) rfl dX0_letterByKin_33 ?_
      refine lv_iload hx hb dX0_letterByKin_36 (lv_at hl 0 rfl) ?_
      obtain ⟨r_5, hr_5, h⟩ := bd_ex h
      refine ro_i (va_runSN (As := [.int (C.1 8), .int v_2]) (rest := []) ⟨hx, hb, hml, hown, hts⟩ (kX6_has l G q C (C.1 8) v_2 r_5 hr_5) ⟨va_cnB 2 hts gX0_letterByKin_X6_has_n31 rfl rfl rfl (hK.2.nw 15 rfl) (w_mem hts 4 rfl) (by decide +kernel) ⟨Nat.le_of_ble_eq_true rfl, Nat.le_of_ble_eq_true rfl⟩, (w_mem hts 3 rfl), trivial⟩ (roS hP hK) rfl rfl hl.1 rfl (lv_room (Nat.le_of_ble_eq_true rfl)) dX0_letterByKin_38 ⟨Nat.zero_le _, Nat.zero_le _⟩) ?_
      refine lv_if_eq (tgt := 47) hx hb dX0_letterByKin_41 (by decide) (fun c_41 => ?_) (fun c_41 => ?_)
      · have h := br_T h c_41
        exact wX0_letterByKin_47 bx hP hK x2 v_1 v_2 h _ (lv_sub hl [2, 3, 4, 1, 0] rfl)
      · have h := br_F h c_41
        refine lv_bipush (v := 112) hx hb dX0_letterByKin_44 (by decide) ?_
        exact GoI.end hx hb hr hlocks dX0_letterByKin_46 rfl h
  · have h := br_F h c_21
    refine lv_bipush (v := 99) hx hb dX0_letterByKin_24 (by decide) ?_
    exact GoI.end hx hb hr hlocks dX0_letterByKin_26 rfl h

def rmX0_letterByGroup : Room := { frames := 1, cells := 0, slots := 0, locals := 21 }

theorem in_wsX0_letterByGroup_X5 : ∀ w ∈ u_ws RX5 TX5 6, w ∈ wsX0_letterByGroup := by decide +kernel

theorem in_wsX0_letterByGroup_X0 : ∀ w ∈ u_ws RX0 TX0 4, w ∈ wsX0_letterByGroup := by decide +kernel

set_option maxHeartbeats 4000000 in
set_option maxRecDepth 100000 in
theorem wX0_letterByGroup_76 {p : Program} {l : Launch} {e : Env} {s : State} {m : MethodId} {args : Array Value} {below : List Frame} {meth : Method} {c : Code} {G : GT} {q : Nat → Nat} {C : St} {out : Int32} (bx : BX p RX0 wsX0_letterByGroup cX0_letterByGroup 5 (some .char) s m args meth c) (hP : va_P G.1 vwCl (CW G q C) s.heap) (hK : CK G s) (x2 : Int32) (h : pX0_letterByGroup_76 C x2 = some out) (ls : Array Slot) (hl : lv_has ls 5 [(0, .ref (q 4)), (1, .ref (q 1)), (2, .int x2)]) : GoI p l e rmX0_letterByGroup s m args below meth c out (F0 m 76 ls []) := by
  obtain ⟨hx, hb, hr, hts, hown, hml, hlocks⟩ := id bx
  unfold pX0_letterByGroup_76 at h
  refine lv_aload_n hx hb dX0_letterByGroup_76 rfl (lv_at hl 1 rfl) ?_
  refine va_getN (D := G.1) (ci := 4) (v := .ref (q 7)) (C := RX5) (T := TX5) (N := 6) hx hb hts in_wsX0_letterByGroup_X5 hown hK.1 hP 1 rfl rfl 1 (by decide) (hK.2.at 34 rfl) (fun _ h9 => h9) rfl dX0_letterByGroup_77 ?_
  refine lv_iload_n hx hb dX0_letterByGroup_80 rfl (lv_at hl 2 rfl) ?_
  obtain ⟨g81, h⟩ := gd_ex h
  refine va_iald (D := G.1) hx hb hK.1 hP 7 0 rfl rfl g81 dX0_letterByGroup_81 ?_
  refine lv_aload_n hx hb dX0_letterByGroup_82 rfl (lv_at hl 0 rfl) ?_
  refine va_get (D := G.1) (ci := 0) (v := .int (C.1 8)) (C := RX0) (T := TX0) (N := 4) hx hb hts in_wsX0_letterByGroup_X0 hown hK.1 hP 4 rfl rfl 3 (by decide) (w_mem hts 2 rfl) (fun _ h9 => h9) rfl dX0_letterByGroup_83 ?_
  refine lv_iconst (v := (-1)) hx hb dX0_letterByGroup_86 (by decide) ?_
  refine lv_ixor hx hb dX0_letterByGroup_87 ?_
  refine lv_iand hx hb dX0_letterByGroup_88 ?_
  obtain ⟨r_2, hr_2, h⟩ := bd_ex h
  refine ro_i (va_runS (As := [.int ((C.2 1 x2.toNatClampNeg) &&& ((C.1 8) ^^^ (-1)))]) (rest := []) ⟨hx, hb, hml, hown, hts⟩ (kJ6_bitCount_0f7a4 l ((C.2 1 x2.toNatClampNeg) &&& ((C.1 8) ^^^ (-1))) r_2 hr_2) (va_cwS 1 hts gX0_letterByGroup_J6_bitCount_0f7a4 rfl rfl rfl (by decide +kernel) ⟨Nat.le_of_ble_eq_true rfl, Nat.le_of_ble_eq_true rfl⟩) noS rfl rfl hl.1 rfl (lv_room (Nat.le_of_ble_eq_true rfl)) dX0_letterByGroup_89 ⟨Nat.zero_le _, Nat.zero_le _⟩) ?_
  refine lv_istore (lv' := [(4, .int r_2), (0, .ref (q 4)), (1, .ref (q 1)), (2, .int x2)]) hx hb dX0_letterByGroup_92 hl (by decide) rfl (fun ls hl => ?_)
  refine lv_iload hx hb dX0_letterByGroup_94 (lv_at hl 0 rfl) ?_
  refine lv_aload_n hx hb dX0_letterByGroup_96 rfl (lv_at hl 2 rfl) ?_
  refine va_getN (D := G.1) (ci := 4) (v := .ref (q 8)) (C := RX5) (T := TX5) (N := 6) hx hb hts in_wsX0_letterByGroup_X5 hown hK.1 hP 1 rfl rfl 2 (by decide) (hK.2.at 38 rfl) (fun _ h9 => h9) rfl dX0_letterByGroup_97 ?_
  refine lv_iload_n hx hb dX0_letterByGroup_100 rfl (lv_at hl 3 rfl) ?_
  obtain ⟨g101, h⟩ := gd_ex h
  refine va_iald (D := G.1) hx hb hK.1 hP 8 0 rfl rfl g101 dX0_letterByGroup_101 ?_
  refine lv_icmp_ge (tgt := 110) hx hb dX0_letterByGroup_102 (by decide) (fun c_102 => ?_) (fun c_102 => ?_)
  · have h := br_T h c_102
    refine lv_bipush (v := 32) hx hb dX0_letterByGroup_110 (by decide) ?_
    exact GoI.end hx hb hr hlocks dX0_letterByGroup_112 rfl h
  · have h := br_F h c_102
    refine lv_bipush (v := 103) hx hb dX0_letterByGroup_105 (by decide) ?_
    refine lv_goto (tgt := 112) hx hb dX0_letterByGroup_107 (by decide) ?_
    exact GoI.end hx hb hr hlocks dX0_letterByGroup_112 rfl h

set_option maxHeartbeats 4000000 in
set_option maxRecDepth 100000 in
theorem kX0_letterByGroup (l : Launch) (G : GT) (q : Nat → Nat) (C : St) (x2 : Int32) (r : Int32) (h : pX0_letterByGroup C x2 = some r) : Met l yX0_letterByGroup wsX0_letterByGroup rmX0_letterByGroup (va_Pc [.ref (q 4), .ref (q 1), .int x2] (roP G (CW G q C))) (vp_Si (fun v => v = r)) 0 0 (fun _ => False) := by
  refine Met.ofW (cc := cX0_letterByGroup) (maxL := 5) (ret := (some .char)) (by decide) rfl ?_
  intro p e s m args below meth c s₁ B hml hv
  obtain ⟨rfl, hP, hK⟩ := hv
  have bx := bx_of B hml
  obtain ⟨hx, hb, hr, hts, hown, hml, hlocks⟩ := id bx
  have hl := lv_entry ([.ref (q 4), .ref (q 1), .int x2]) (n := 5) (Nat.le_of_ble_eq_true rfl)
  rw [lg_entry_eq]
  generalize (lg_sl ([.ref (q 4), .ref (q 1), .int x2]) ++ List.replicate (5 - (lg_sl ([.ref (q 4), .ref (q 1), .int x2])).length) Slot.unset).toArray = ls at hl ⊢
  have hl : lv_has ls 5 [(0, .ref (q 4)), (1, .ref (q 1)), (2, .int x2)] := hl
  show GoI p l e rmX0_letterByGroup s m _ below meth c r (F0 m 0 ls [])
  unfold pX0_letterByGroup at h
  refine lv_aload_n hx hb dX0_letterByGroup_0 rfl (lv_at hl 1 rfl) ?_
  refine va_getN (D := G.1) (ci := 4) (v := .ref (q 6)) (C := RX5) (T := TX5) (N := 6) hx hb hts in_wsX0_letterByGroup_X5 hown hK.1 hP 1 rfl rfl 0 (by decide) (hK.2.at 35 rfl) (fun _ h9 => h9) rfl dX0_letterByGroup_1 ?_
  refine lv_iload_n hx hb dX0_letterByGroup_4 rfl (lv_at hl 2 rfl) ?_
  obtain ⟨g5, h⟩ := gd_ex h
  refine va_iald (D := G.1) hx hb hK.1 hP 6 0 rfl rfl g5 dX0_letterByGroup_5 ?_
  refine lv_topi (fun v_1 ev_1 => ?_)
  have h := ltv_at h v_1 ev_1
  refine lv_istore_n (lv' := [(3, .int v_1), (0, .ref (q 4)), (1, .ref (q 1)), (2, .int x2)]) hx hb dX0_letterByGroup_6 rfl hl (by decide) rfl (fun ls hl => ?_)
  refine lv_iload_n hx hb dX0_letterByGroup_7 rfl (lv_at hl 0 rfl) ?_
  refine lv_if_lt (tgt := 76) hx hb dX0_letterByGroup_8 (by decide) (fun c_8 => ?_) (fun c_8 => ?_)
  · have h := br_T h c_8
    exact wX0_letterByGroup_76 bx hP hK x2 h _ (lv_sub hl [1, 2, 3] rfl)
  · have h := br_F h c_8
    refine lv_aload_n hx hb dX0_letterByGroup_11 rfl (lv_at hl 1 rfl) ?_
    refine va_get (D := G.1) (ci := 0) (v := .int (C.1 7)) (C := RX0) (T := TX0) (N := 4) hx hb hts in_wsX0_letterByGroup_X0 hown hK.1 hP 4 rfl rfl 2 (by decide) (w_mem hts 1 rfl) (fun _ h9 => h9) rfl dX0_letterByGroup_12 ?_
    refine lv_iload_n hx hb dX0_letterByGroup_15 rfl (lv_at hl 0 rfl) ?_
    obtain ⟨r_3, hr_3, h⟩ := bd_ex h
    refine ro_i (va_runSN (As := [.int (C.1 7), .int v_1]) (rest := []) ⟨hx, hb, hml, hown, hts⟩ (kX6_has l G q C (C.1 7) v_1 r_3 hr_3) ⟨va_cnB 2 hts gX0_letterByGroup_X6_has_n31 rfl rfl rfl (hK.2.nw 15 rfl) (w_mem hts 4 rfl) (by decide +kernel) ⟨Nat.le_of_ble_eq_true rfl, Nat.le_of_ble_eq_true rfl⟩, (w_mem hts 3 rfl), trivial⟩ (roS hP hK) rfl rfl hl.1 rfl (lv_room (Nat.le_of_ble_eq_true rfl)) dX0_letterByGroup_16 ⟨Nat.zero_le _, Nat.zero_le _⟩) ?_
    refine lv_if_eq (tgt := 76) hx hb dX0_letterByGroup_19 (by decide) (fun c_19 => ?_) (fun c_19 => ?_)
    · have h := br_T h c_19
      exact wX0_letterByGroup_76 bx hP hK x2 h _ (lv_sub hl [1, 2, 3] rfl)
    · have h := br_F h c_19
      refine lv_aload_n hx hb dX0_letterByGroup_22 rfl (lv_at hl 2 rfl) ?_
      refine va_getN (D := G.1) (ci := 4) (v := .ref (q 7)) (C := RX5) (T := TX5) (N := 6) hx hb hts in_wsX0_letterByGroup_X5 hown hK.1 hP 1 rfl rfl 1 (by decide) (hK.2.at 34 rfl) (fun _ h9 => h9) rfl dX0_letterByGroup_23 ?_
      refine lv_iload_n hx hb dX0_letterByGroup_26 rfl (lv_at hl 0 rfl) ?_
      obtain ⟨g27, h⟩ := gd_ex h
      refine va_iald (D := G.1) hx hb hK.1 hP 7 0 rfl rfl g27 dX0_letterByGroup_27 ?_
      refine lv_topi (fun v_4 ev_4 => ?_)
      have h := ltv_at h v_4 ev_4
      refine lv_istore (lv' := [(4, .int v_4), (3, .int v_1), (0, .ref (q 4)), (1, .ref (q 1)), (2, .int x2)]) hx hb dX0_letterByGroup_28 hl (by decide) rfl (fun ls hl => ?_)
      refine lv_iload hx hb dX0_letterByGroup_30 (lv_at hl 0 rfl) ?_
      refine lv_aload_n hx hb dX0_letterByGroup_32 rfl (lv_at hl 2 rfl) ?_
      refine va_get (D := G.1) (ci := 0) (v := .int (C.1 7)) (C := RX0) (T := TX0) (N := 4) hx hb hts in_wsX0_letterByGroup_X0 hown hK.1 hP 4 rfl rfl 2 (by decide) (w_mem hts 1 rfl) (fun _ h9 => h9) rfl dX0_letterByGroup_33 ?_
      refine lv_iand hx hb dX0_letterByGroup_36 ?_
      obtain ⟨r_5, hr_5, h⟩ := bd_ex h
      refine ro_i (va_runS (As := [.int (v_4 &&& (C.1 7))]) (rest := []) ⟨hx, hb, hml, hown, hts⟩ (kJ6_bitCount_0f7a4 l (v_4 &&& (C.1 7)) r_5 hr_5) (va_cwS 1 hts gX0_letterByGroup_J6_bitCount_0f7a4 rfl rfl rfl (by decide +kernel) ⟨Nat.le_of_ble_eq_true rfl, Nat.le_of_ble_eq_true rfl⟩) noS rfl rfl hl.1 rfl (lv_room (Nat.le_of_ble_eq_true rfl)) dX0_letterByGroup_37 ⟨Nat.zero_le _, Nat.zero_le _⟩) ?_
      refine lv_aload_n hx hb dX0_letterByGroup_40 rfl (lv_at hl 3 rfl) ?_
      refine va_getN (D := G.1) (ci := 4) (v := .ref (q 9)) (C := RX5) (T := TX5) (N := 6) hx hb hts in_wsX0_letterByGroup_X5 hown hK.1 hP 1 rfl rfl 3 (by decide) (hK.2.at 37 rfl) (fun _ h9 => h9) rfl dX0_letterByGroup_41 ?_
      refine lv_iload_n hx hb dX0_letterByGroup_44 rfl (lv_at hl 1 rfl) ?_
      obtain ⟨g45, h⟩ := gd_ex h
      refine va_iald (D := G.1) hx hb hK.1 hP 9 0 rfl rfl g45 dX0_letterByGroup_45 ?_
      refine lv_icmp_ne (tgt := 52) hx hb dX0_letterByGroup_46 (by decide) (fun c_46 => ?_) (fun c_46 => ?_)
      · have h := br_F h c_46
        refine lv_iload hx hb dX0_letterByGroup_52 (lv_at hl 0 rfl) ?_
        refine lv_aload_n hx hb dX0_letterByGroup_54 rfl (lv_at hl 2 rfl) ?_
        refine va_get (D := G.1) (ci := 0) (v := .int (C.1 8)) (C := RX0) (T := TX0) (N := 4) hx hb hts in_wsX0_letterByGroup_X0 hown hK.1 hP 4 rfl rfl 3 (by decide) (w_mem hts 2 rfl) (fun _ h9 => h9) rfl dX0_letterByGroup_55 ?_
        refine lv_iconst (v := (-1)) hx hb dX0_letterByGroup_58 (by decide) ?_
        refine lv_ixor hx hb dX0_letterByGroup_59 ?_
        refine lv_iand hx hb dX0_letterByGroup_60 ?_
        obtain ⟨r_6, hr_6, h⟩ := bd_ex h
        refine ro_i (va_runS (As := [.int (v_4 &&& ((C.1 8) ^^^ (-1)))]) (rest := []) ⟨hx, hb, hml, hown, hts⟩ (kJ6_bitCount_0f7a4 l (v_4 &&& ((C.1 8) ^^^ (-1))) r_6 hr_6) (va_cwS 1 hts gX0_letterByGroup_J6_bitCount_0f7a4 rfl rfl rfl (by decide +kernel) ⟨Nat.le_of_ble_eq_true rfl, Nat.le_of_ble_eq_true rfl⟩) noS rfl rfl hl.1 rfl (lv_room (Nat.le_of_ble_eq_true rfl)) dX0_letterByGroup_61 ⟨Nat.zero_le _, Nat.zero_le _⟩) ?_
        refine lv_aload_n hx hb dX0_letterByGroup_64 rfl (lv_at hl 3 rfl) ?_
        refine va_getN (D := G.1) (ci := 4) (v := .ref (q 8)) (C := RX5) (T := TX5) (N := 6) hx hb hts in_wsX0_letterByGroup_X5 hown hK.1 hP 1 rfl rfl 2 (by decide) (hK.2.at 38 rfl) (fun _ h9 => h9) rfl dX0_letterByGroup_65 ?_
        refine lv_iload_n hx hb dX0_letterByGroup_68 rfl (lv_at hl 1 rfl) ?_
        obtain ⟨g69, h⟩ := gd_ex h
        refine va_iald (D := G.1) hx hb hK.1 hP 8 0 rfl rfl g69 dX0_letterByGroup_69 ?_
        refine lv_icmp_ne (tgt := 76) hx hb dX0_letterByGroup_70 (by decide) (fun c_70 => ?_) (fun c_70 => ?_)
        · have h := br_F h c_70
          exact wX0_letterByGroup_76 bx hP hK x2 h _ (lv_sub hl [2, 3, 4] rfl)
        · have h := br_T h c_70
          refine lv_bipush (v := 110) hx hb dX0_letterByGroup_73 (by decide) ?_
          exact GoI.end hx hb hr hlocks dX0_letterByGroup_75 rfl h
      · have h := br_T h c_46
        refine lv_bipush (v := 102) hx hb dX0_letterByGroup_49 (by decide) ?_
        exact GoI.end hx hb hr hlocks dX0_letterByGroup_51 rfl h
