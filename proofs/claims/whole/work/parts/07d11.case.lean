set_option maxHeartbeats 4000000 in
set_option maxRecDepth 100000 in
theorem law_c4 {p : Program} {l : Launch} {e : Env} {s : State} {m : MethodId} {below : List Frame} {meth : Method} {c : Code} {b L : Nat} {xs : Nat → Int32} {G : GT} {qm q : Nat → Nat} {qo t cells slots : Nat} {Q : State → Prop} {C M : St} {o : Nat → Int64} {H : Heap} {locs : List Loc} {ls : Array Slot} (hL : LE p l s m meth c b L xs G) (ht : 4 * t + 3 < L) (hc : cells + 60 ≤ 601024 ∧ slots + 4000 ≤ 7293034) (hN : LN p l e s m below meth c b G qm q qo t cells slots Q) (hI : Inv C M) (hP : va_P G.1 vwCl (LW G qm q qo M C o) H) (hD : va_D (LA s) (LW G qm q qo M C o)) (hS : va_S (LA s) s.heap H locs) (hl : lv_has ls 9 (lwL b (qm 0) (q 0) qo t)) : W p l e room_1 s m #[.ref b] below meth c H locs cells slots Q (F0 m 503 ls []) := by
  obtain ⟨⟨hx, hb, hr, hts, hown, hml, hlocks⟩, hl0, hK, hE, hZ, hX, hbl, hL2⟩ := hL
  obtain ⟨D, i0, o0, hI⟩ := hI
  obtain ⟨x1, hx1⟩ : ∃ x, xs (4 * t + 1) = x := ⟨_, rfl⟩
  obtain ⟨x2, hx2⟩ : ∃ x, xs (4 * t + 2) = x := ⟨_, rfl⟩
  obtain ⟨k, bb, M', C', o', hw, hM, hI2, h7, ho⟩ := agW (cd := cdL_exclude) (aExclude hI x1 x2) (by intro k; unfold cdL_exclude; (repeat' split) <;> decide) Int32.toInt64 o
  refine lv_aload_n hx hb dL_law_503 rfl (lv_at hl 3 rfl) ?_
  refine lv_aload_n hx hb dL_law_504 rfl (lv_at hl 4 rfl) ?_
  refine lv_iload hx hb dL_law_505 (lv_at hl 0 rfl) ?_
  refine lv_iconst (v := 1) hx hb dL_law_507 (by decide) ?_
  refine lv_iadd hx hb dL_law_508 ?_
  rw [show (nI (4 * t) + 1 : Int32) = nI (4 * t + 1) from nI_add (4 * t) 1]
  refine va_sld hx hb hX hbl (Nat.not_le_of_lt hbl) hS (vp_in_nI (by omega) (by omega)) dL_law_509 ?_
  rw [nI_clamp (n := 4 * t + 1) (by omega), hx1]
  refine lv_aload_n hx hb dL_law_510 rfl (lv_at hl 4 rfl) ?_
  refine lv_iload hx hb dL_law_511 (lv_at hl 0 rfl) ?_
  refine lv_iconst (v := 2) hx hb dL_law_513 (by decide) ?_
  refine lv_iadd hx hb dL_law_514 ?_
  rw [show (nI (4 * t) + 2 : Int32) = nI (4 * t + 2) from nI_add (4 * t) 2]
  refine va_sld hx hb hX hbl (Nat.not_le_of_lt hbl) hS (vp_in_nI (by omega) (by omega)) dL_law_515 ?_
  rw [nI_clamp (n := 4 * t + 2) (by omega), hx2]
  refine lv_aload_n hx hb dL_law_516 rfl (lv_at hl 1 rfl) ?_
  refine lw_x (vx_runSW (As := [.ref (q 0), .int x1, .int x2, .ref qo]) (rest := []) ⟨hx, hb, hml, hown, hts⟩ (kL_exclude l hl0 G q qo C o _ x1 x2 _ hw) (vx_cwSW 4 hts gL_law_L_exclude rfl rfl rfl (by decide +kernel) ⟨Nat.le_of_ble_eq_true rfl, Nat.le_of_ble_eq_true rfl⟩) (xS (lw_PX hP) (lw_DX hD) hS hK lw_hA hE) rfl rfl hl.1 rfl (lv_room (Nat.le_of_ble_eq_true rfl)) dL_law_517 ⟨by show cells + 1 ≤ 601024; omega, by show slots + 6 ≤ 7293034; omega⟩) hP hD hS (fun H locs hP hD hS => ?_)
  have hP : va_P G.1 vwCl (LW G qm q qo M C' o') H := hP
  have hD : va_D (LA s) (LW G qm q qo M C' o') := hD
  refine lv_istore (lv' := [(5, .int k), (4, .int (nI (4 * t))), (3, .ref qo), (2, .ref (qm 0)), (1, .ref (q 0)), (0, .ref b)]) hx hb dL_law_520 hl (by decide) rfl (fun ls hl => ?_)
  refine lv_aload_n hx hb dL_law_522 rfl (lv_at hl 3 rfl) ?_
  refine lv_aload_n hx hb dL_law_523 rfl (lv_at hl 5 rfl) ?_
  refine lv_iload hx hb dL_law_524 (lv_at hl 1 rfl) ?_
  refine lv_iconst (v := 1) hx hb dL_law_526 (by decide) ?_
  refine lv_iadd hx hb dL_law_527 ?_
  rw [show (nI (4 * t) + 1 : Int32) = nI (4 * t + 1) from nI_add (4 * t) 1]
  refine va_sld hx hb hX hbl (Nat.not_le_of_lt hbl) hS (vp_in_nI (by omega) (by omega)) dL_law_528 ?_
  rw [nI_clamp (n := 4 * t + 1) (by omega), hx1]
  refine lv_aload_n hx hb dL_law_529 rfl (lv_at hl 5 rfl) ?_
  refine lv_iload hx hb dL_law_530 (lv_at hl 1 rfl) ?_
  refine lv_iconst (v := 2) hx hb dL_law_532 (by decide) ?_
  refine lv_iadd hx hb dL_law_533 ?_
  rw [show (nI (4 * t) + 2 : Int32) = nI (4 * t + 2) from nI_add (4 * t) 2]
  refine va_sld hx hb hX hbl (Nat.not_le_of_lt hbl) hS (vp_in_nI (by omega) (by omega)) dL_law_534 ?_
  rw [nI_clamp (n := 4 * t + 2) (by omega), hx2]
  refine lm_i (va_runV (As := [.int x1, .int x2]) (rest := []) ⟨hx, hb, hml, hown, hts⟩ (kX7_exclude l G qm M _ x1 x2 _ hM) (cwV 2 hts gL_law_X7_exclude rfl rfl rfl (by decide +kernel) ⟨Nat.le_of_ble_eq_true rfl, Nat.le_of_ble_eq_true rfl⟩) (wrV (lw_PM hP) (lw_DM hD) hK 8 0 rfl rfl) rfl rfl hl.1 rfl (lv_room (Nat.le_of_ble_eq_true rfl)) dL_law_535 ⟨by show cells + 1 + 0 ≤ 601024; omega, by show slots + 6 + 0 ≤ 7293034; omega⟩) hP hD hS (fun H locs hP hD hS => ?_)
  have hP : va_P G.1 vwCl (LW G qm q qo M' C' o') H := hP
  have hD : va_D (LA s) (LW G qm q qo M' C' o') := hD
  refine lv_istore (lv' := [(6, .int bb), (5, .int k), (4, .int (nI (4 * t))), (3, .ref qo), (2, .ref (qm 0)), (1, .ref (q 0)), (0, .ref b)]) hx hb dL_law_538 hl (by decide) rfl (fun ls hl => ?_)
  refine lv_aload_n hx hb dL_law_540 rfl (lv_at hl 4 rfl) ?_
  refine ro_i (va_runV (As := []) (rest := []) ⟨hx, hb, hml, hown, hts⟩ (kX7_thrown l G qm M' _ rfl) (cwV 0 hts gL_law_X7_thrown rfl rfl rfl (by decide +kernel) ⟨Nat.le_of_ble_eq_true rfl, Nat.le_of_ble_eq_true rfl⟩) (roV (lw_PM hP) hK 8 0 rfl rfl) rfl rfl hl.1 rfl (lv_room (Nat.le_of_ble_eq_true rfl)) dL_law_541 ⟨by show cells + 1 + 0 + 0 ≤ 601024; omega, by show slots + 6 + 0 + 0 ≤ 7293034; omega⟩) ?_
  rw [h7]
  refine lv_iload hx hb dL_law_544 (lv_at hl 1 rfl) ?_
  refine lv_icmp_eq (tgt := 551) hx hb dL_law_546 (by decide) (fun _ => ?_) (fun c_ => absurd rfl c_)
  refine lv_iload hx hb dL_law_551 (lv_at hl 1 rfl) ?_
  refine lv_if_ne (tgt := 568) hx hb dL_law_553 (by decide) (fun _ => ?_) (fun z => ?_)
  · skip
    refine lv_goto (tgt := 2033) hx hb dL_law_568 (by decide) ?_
    exact W.widen (k := cells + 60) (n := slots + 4000) (by omega) (by omega) (hN _ _ _ _ _ _ hI2 hP hD hS (lv_sub hl [2, 3, 4, 5, 6] rfl))
  · skip
    refine lv_aload_n hx hb dL_law_556 rfl (lv_at hl 3 rfl) ?_
    refine lv_iconst (v := 0) hx hb dL_law_557 (by decide) ?_
    refine va_lald (D := G.1) hx hb hK.1 hP 37 3 rfl rfl (by unfold vp_in; decide) dL_law_558 ?_
    rw [show (0 : Int32).toNatClampNeg = 0 from rfl]
    refine lv_iload hx hb dL_law_559 (lv_at hl 0 rfl) ?_
    refine lv_i2l (v := Int32.toInt64 bb) hx hb dL_law_561 rfl ?_
    refine W.lcmp hx hb dL_law_562 ?_
    rw [ho z, lcmp0]
    refine lv_if_eq (tgt := 568) hx hb dL_law_563 (by decide) (fun _ => ?_) (fun c_ => absurd rfl c_)
    refine lv_goto (tgt := 2033) hx hb dL_law_568 (by decide) ?_
    exact W.widen (k := cells + 60) (n := slots + 4000) (by omega) (by omega) (hN _ _ _ _ _ _ hI2 hP hD hS (lv_sub hl [2, 3, 4, 5, 6] rfl))

set_option maxHeartbeats 4000000 in
set_option maxRecDepth 100000 in
theorem law_c5 {p : Program} {l : Launch} {e : Env} {s : State} {m : MethodId} {below : List Frame} {meth : Method} {c : Code} {b L : Nat} {xs : Nat → Int32} {G : GT} {qm q : Nat → Nat} {qo t cells slots : Nat} {Q : State → Prop} {C M : St} {o : Nat → Int64} {H : Heap} {locs : List Loc} {ls : Array Slot} (hL : LE p l s m meth c b L xs G) (ht : 4 * t + 3 < L) (hc : cells + 60 ≤ 601024 ∧ slots + 4000 ≤ 7293034) (hN : LN p l e s m below meth c b G qm q qo t cells slots Q) (hI : Inv C M) (hP : va_P G.1 vwCl (LW G qm q qo M C o) H) (hD : va_D (LA s) (LW G qm q qo M C o)) (hS : va_S (LA s) s.heap H locs) (hl : lv_has ls 9 (lwL b (qm 0) (q 0) qo t)) : W p l e room_1 s m #[.ref b] below meth c H locs cells slots Q (F0 m 571 ls []) := by
  obtain ⟨⟨hx, hb, hr, hts, hown, hml, hlocks⟩, hl0, hK, hE, hZ, hX, hbl, hL2⟩ := hL
  obtain ⟨D, i0, o0, hI⟩ := hI
  obtain ⟨x1, hx1⟩ : ∃ x, xs (4 * t + 1) = x := ⟨_, rfl⟩
  obtain ⟨x2, hx2⟩ : ∃ x, xs (4 * t + 2) = x := ⟨_, rfl⟩
  obtain ⟨x3, hx3⟩ : ∃ x, xs (4 * t + 3) = x := ⟨_, rfl⟩
  obtain ⟨k, bb, M', C', o', hw, hM, hI2, h7, ho⟩ := agW (cd := cdL_any) (aAny hI x1 x2 x3) (by intro k; unfold cdL_any; (repeat' split) <;> decide) Int32.toInt64 o
  refine lv_aload_n hx hb dL_law_571 rfl (lv_at hl 3 rfl) ?_
  refine lv_aload_n hx hb dL_law_572 rfl (lv_at hl 4 rfl) ?_
  refine lv_iload hx hb dL_law_573 (lv_at hl 0 rfl) ?_
  refine lv_iconst (v := 1) hx hb dL_law_575 (by decide) ?_
  refine lv_iadd hx hb dL_law_576 ?_
  rw [show (nI (4 * t) + 1 : Int32) = nI (4 * t + 1) from nI_add (4 * t) 1]
  refine va_sld hx hb hX hbl (Nat.not_le_of_lt hbl) hS (vp_in_nI (by omega) (by omega)) dL_law_577 ?_
  rw [nI_clamp (n := 4 * t + 1) (by omega), hx1]
  refine lv_aload_n hx hb dL_law_578 rfl (lv_at hl 4 rfl) ?_
  refine lv_iload hx hb dL_law_579 (lv_at hl 0 rfl) ?_
  refine lv_iconst (v := 2) hx hb dL_law_581 (by decide) ?_
  refine lv_iadd hx hb dL_law_582 ?_
  rw [show (nI (4 * t) + 2 : Int32) = nI (4 * t + 2) from nI_add (4 * t) 2]
  refine va_sld hx hb hX hbl (Nat.not_le_of_lt hbl) hS (vp_in_nI (by omega) (by omega)) dL_law_583 ?_
  rw [nI_clamp (n := 4 * t + 2) (by omega), hx2]
  refine lv_aload_n hx hb dL_law_584 rfl (lv_at hl 4 rfl) ?_
  refine lv_iload hx hb dL_law_585 (lv_at hl 0 rfl) ?_
  refine lv_iconst (v := 3) hx hb dL_law_587 (by decide) ?_
  refine lv_iadd hx hb dL_law_588 ?_
  rw [show (nI (4 * t) + 3 : Int32) = nI (4 * t + 3) from nI_add (4 * t) 3]
  refine va_sld hx hb hX hbl (Nat.not_le_of_lt hbl) hS (vp_in_nI (by omega) (by omega)) dL_law_589 ?_
  rw [nI_clamp (n := 4 * t + 3) (by omega), hx3]
  refine lv_aload_n hx hb dL_law_590 rfl (lv_at hl 1 rfl) ?_
  refine lw_x (vx_runSW (As := [.ref (q 0), .int x1, .int x2, .int x3, .ref qo]) (rest := []) ⟨hx, hb, hml, hown, hts⟩ (kL_any l hl0 G q qo C o _ x1 x2 x3 _ hw) (vx_cwSW 5 hts gL_law_L_any rfl rfl rfl (by decide +kernel) ⟨Nat.le_of_ble_eq_true rfl, Nat.le_of_ble_eq_true rfl⟩) (xS (lw_PX hP) (lw_DX hD) hS hK lw_hA hE) rfl rfl hl.1 rfl (lv_room (Nat.le_of_ble_eq_true rfl)) dL_law_591 ⟨by show cells + 1 ≤ 601024; omega, by show slots + 6 ≤ 7293034; omega⟩) hP hD hS (fun H locs hP hD hS => ?_)
  have hP : va_P G.1 vwCl (LW G qm q qo M C' o') H := hP
  have hD : va_D (LA s) (LW G qm q qo M C' o') := hD
  refine lv_istore (lv' := [(5, .int k), (4, .int (nI (4 * t))), (3, .ref qo), (2, .ref (qm 0)), (1, .ref (q 0)), (0, .ref b)]) hx hb dL_law_594 hl (by decide) rfl (fun ls hl => ?_)
  refine lv_aload_n hx hb dL_law_596 rfl (lv_at hl 3 rfl) ?_
  refine lv_aload_n hx hb dL_law_597 rfl (lv_at hl 5 rfl) ?_
  refine lv_iload hx hb dL_law_598 (lv_at hl 1 rfl) ?_
  refine lv_iconst (v := 1) hx hb dL_law_600 (by decide) ?_
  refine lv_iadd hx hb dL_law_601 ?_
  rw [show (nI (4 * t) + 1 : Int32) = nI (4 * t + 1) from nI_add (4 * t) 1]
  refine va_sld hx hb hX hbl (Nat.not_le_of_lt hbl) hS (vp_in_nI (by omega) (by omega)) dL_law_602 ?_
  rw [nI_clamp (n := 4 * t + 1) (by omega), hx1]
  refine lv_aload_n hx hb dL_law_603 rfl (lv_at hl 5 rfl) ?_
  refine lv_iload hx hb dL_law_604 (lv_at hl 1 rfl) ?_
  refine lv_iconst (v := 2) hx hb dL_law_606 (by decide) ?_
  refine lv_iadd hx hb dL_law_607 ?_
  rw [show (nI (4 * t) + 2 : Int32) = nI (4 * t + 2) from nI_add (4 * t) 2]
  refine va_sld hx hb hX hbl (Nat.not_le_of_lt hbl) hS (vp_in_nI (by omega) (by omega)) dL_law_608 ?_
  rw [nI_clamp (n := 4 * t + 2) (by omega), hx2]
  refine lv_aload_n hx hb dL_law_609 rfl (lv_at hl 5 rfl) ?_
  refine lv_iload hx hb dL_law_610 (lv_at hl 1 rfl) ?_
  refine lv_iconst (v := 3) hx hb dL_law_612 (by decide) ?_
  refine lv_iadd hx hb dL_law_613 ?_
  rw [show (nI (4 * t) + 3 : Int32) = nI (4 * t + 3) from nI_add (4 * t) 3]
  refine va_sld hx hb hX hbl (Nat.not_le_of_lt hbl) hS (vp_in_nI (by omega) (by omega)) dL_law_614 ?_
  rw [nI_clamp (n := 4 * t + 3) (by omega), hx3]
  refine lm_i (va_runV (As := [.int x1, .int x2, .int x3]) (rest := []) ⟨hx, hb, hml, hown, hts⟩ (kX7_any l G qm M _ x1 x2 x3 _ hM) (cwV 3 hts gL_law_X7_any rfl rfl rfl (by decide +kernel) ⟨Nat.le_of_ble_eq_true rfl, Nat.le_of_ble_eq_true rfl⟩) (wrV (lw_PM hP) (lw_DM hD) hK 8 0 rfl rfl) rfl rfl hl.1 rfl (lv_room (Nat.le_of_ble_eq_true rfl)) dL_law_615 ⟨by show cells + 1 + 0 ≤ 601024; omega, by show slots + 6 + 0 ≤ 7293034; omega⟩) hP hD hS (fun H locs hP hD hS => ?_)
  have hP : va_P G.1 vwCl (LW G qm q qo M' C' o') H := hP
  have hD : va_D (LA s) (LW G qm q qo M' C' o') := hD
  refine lv_istore (lv' := [(6, .int bb), (5, .int k), (4, .int (nI (4 * t))), (3, .ref qo), (2, .ref (qm 0)), (1, .ref (q 0)), (0, .ref b)]) hx hb dL_law_618 hl (by decide) rfl (fun ls hl => ?_)
  refine lv_aload_n hx hb dL_law_620 rfl (lv_at hl 4 rfl) ?_
  refine ro_i (va_runV (As := []) (rest := []) ⟨hx, hb, hml, hown, hts⟩ (kX7_thrown l G qm M' _ rfl) (cwV 0 hts gL_law_X7_thrown rfl rfl rfl (by decide +kernel) ⟨Nat.le_of_ble_eq_true rfl, Nat.le_of_ble_eq_true rfl⟩) (roV (lw_PM hP) hK 8 0 rfl rfl) rfl rfl hl.1 rfl (lv_room (Nat.le_of_ble_eq_true rfl)) dL_law_621 ⟨by show cells + 1 + 0 + 0 ≤ 601024; omega, by show slots + 6 + 0 + 0 ≤ 7293034; omega⟩) ?_
  rw [h7]
  refine lv_iload hx hb dL_law_624 (lv_at hl 1 rfl) ?_
  refine lv_icmp_eq (tgt := 631) hx hb dL_law_626 (by decide) (fun _ => ?_) (fun c_ => absurd rfl c_)
  refine lv_iload hx hb dL_law_631 (lv_at hl 1 rfl) ?_
  refine lv_if_ne (tgt := 648) hx hb dL_law_633 (by decide) (fun _ => ?_) (fun z => ?_)
  · skip
    refine lv_goto (tgt := 2033) hx hb dL_law_648 (by decide) ?_
    exact W.widen (k := cells + 60) (n := slots + 4000) (by omega) (by omega) (hN _ _ _ _ _ _ hI2 hP hD hS (lv_sub hl [2, 3, 4, 5, 6] rfl))
  · skip
    refine lv_aload_n hx hb dL_law_636 rfl (lv_at hl 3 rfl) ?_
    refine lv_iconst (v := 0) hx hb dL_law_637 (by decide) ?_
    refine va_lald (D := G.1) hx hb hK.1 hP 37 3 rfl rfl (by unfold vp_in; decide) dL_law_638 ?_
    rw [show (0 : Int32).toNatClampNeg = 0 from rfl]
    refine lv_iload hx hb dL_law_639 (lv_at hl 0 rfl) ?_
    refine lv_i2l (v := Int32.toInt64 bb) hx hb dL_law_641 rfl ?_
    refine W.lcmp hx hb dL_law_642 ?_
    rw [ho z, lcmp0]
    refine lv_if_eq (tgt := 648) hx hb dL_law_643 (by decide) (fun _ => ?_) (fun c_ => absurd rfl c_)
    refine lv_goto (tgt := 2033) hx hb dL_law_648 (by decide) ?_
    exact W.widen (k := cells + 60) (n := slots + 4000) (by omega) (by omega) (hN _ _ _ _ _ _ hI2 hP hD hS (lv_sub hl [2, 3, 4, 5, 6] rfl))

set_option maxHeartbeats 4000000 in
set_option maxRecDepth 100000 in
theorem law_c6 {p : Program} {l : Launch} {e : Env} {s : State} {m : MethodId} {below : List Frame} {meth : Method} {c : Code} {b L : Nat} {xs : Nat → Int32} {G : GT} {qm q : Nat → Nat} {qo t cells slots : Nat} {Q : State → Prop} {C M : St} {o : Nat → Int64} {H : Heap} {locs : List Loc} {ls : Array Slot} (hL : LE p l s m meth c b L xs G) (ht : 4 * t + 3 < L) (hc : cells + 60 ≤ 601024 ∧ slots + 4000 ≤ 7293034) (hN : LN p l e s m below meth c b G qm q qo t cells slots Q) (hI : Inv C M) (hP : va_P G.1 vwCl (LW G qm q qo M C o) H) (hD : va_D (LA s) (LW G qm q qo M C o)) (hS : va_S (LA s) s.heap H locs) (hl : lv_has ls 9 (lwL b (qm 0) (q 0) qo t)) : W p l e room_1 s m #[.ref b] below meth c H locs cells slots Q (F0 m 651 ls []) := by
  obtain ⟨⟨hx, hb, hr, hts, hown, hml, hlocks⟩, hl0, hK, hE, hZ, hX, hbl, hL2⟩ := hL
  obtain ⟨D, i0, o0, hI⟩ := hI
  obtain ⟨x1, hx1⟩ : ∃ x, xs (4 * t + 1) = x := ⟨_, rfl⟩
  obtain ⟨k, bb, M', C', o', hw, hM, hI2, h7, ho⟩ := agW (cd := cdL_lift) (aLift hI x1) (by intro k; unfold cdL_lift; (repeat' split) <;> decide) Int32.toInt64 o
  refine lv_aload_n hx hb dL_law_651 rfl (lv_at hl 3 rfl) ?_
  refine lv_aload_n hx hb dL_law_652 rfl (lv_at hl 4 rfl) ?_
  refine lv_iload hx hb dL_law_653 (lv_at hl 0 rfl) ?_
  refine lv_iconst (v := 1) hx hb dL_law_655 (by decide) ?_
  refine lv_iadd hx hb dL_law_656 ?_
  rw [show (nI (4 * t) + 1 : Int32) = nI (4 * t + 1) from nI_add (4 * t) 1]
  refine va_sld hx hb hX hbl (Nat.not_le_of_lt hbl) hS (vp_in_nI (by omega) (by omega)) dL_law_657 ?_
  rw [nI_clamp (n := 4 * t + 1) (by omega), hx1]
  refine lv_aload_n hx hb dL_law_658 rfl (lv_at hl 1 rfl) ?_
  refine lw_x (vx_runSW (As := [.ref (q 0), .int x1, .ref qo]) (rest := []) ⟨hx, hb, hml, hown, hts⟩ (kL_lift l hl0 G q qo C o _ x1 _ hw) (vx_cwSW 3 hts gL_law_L_lift rfl rfl rfl (by decide +kernel) ⟨Nat.le_of_ble_eq_true rfl, Nat.le_of_ble_eq_true rfl⟩) (xS (lw_PX hP) (lw_DX hD) hS hK lw_hA hE) rfl rfl hl.1 rfl (lv_room (Nat.le_of_ble_eq_true rfl)) dL_law_659 ⟨by show cells + 1 ≤ 601024; omega, by show slots + 6 ≤ 7293034; omega⟩) hP hD hS (fun H locs hP hD hS => ?_)
  have hP : va_P G.1 vwCl (LW G qm q qo M C' o') H := hP
  have hD : va_D (LA s) (LW G qm q qo M C' o') := hD
  refine lv_istore (lv' := [(5, .int k), (4, .int (nI (4 * t))), (3, .ref qo), (2, .ref (qm 0)), (1, .ref (q 0)), (0, .ref b)]) hx hb dL_law_662 hl (by decide) rfl (fun ls hl => ?_)
  refine lv_aload_n hx hb dL_law_664 rfl (lv_at hl 3 rfl) ?_
  refine lv_aload_n hx hb dL_law_665 rfl (lv_at hl 5 rfl) ?_
  refine lv_iload hx hb dL_law_666 (lv_at hl 1 rfl) ?_
  refine lv_iconst (v := 1) hx hb dL_law_668 (by decide) ?_
  refine lv_iadd hx hb dL_law_669 ?_
  rw [show (nI (4 * t) + 1 : Int32) = nI (4 * t + 1) from nI_add (4 * t) 1]
  refine va_sld hx hb hX hbl (Nat.not_le_of_lt hbl) hS (vp_in_nI (by omega) (by omega)) dL_law_670 ?_
  rw [nI_clamp (n := 4 * t + 1) (by omega), hx1]
  refine lm_i (va_runV (As := [.int x1]) (rest := []) ⟨hx, hb, hml, hown, hts⟩ (kX7_lift l G qm M _ x1 _ hM) (cwV 1 hts gL_law_X7_lift rfl rfl rfl (by decide +kernel) ⟨Nat.le_of_ble_eq_true rfl, Nat.le_of_ble_eq_true rfl⟩) (wrV (lw_PM hP) (lw_DM hD) hK 8 0 rfl rfl) rfl rfl hl.1 rfl (lv_room (Nat.le_of_ble_eq_true rfl)) dL_law_671 ⟨by show cells + 1 + 0 ≤ 601024; omega, by show slots + 6 + 0 ≤ 7293034; omega⟩) hP hD hS (fun H locs hP hD hS => ?_)
  have hP : va_P G.1 vwCl (LW G qm q qo M' C' o') H := hP
  have hD : va_D (LA s) (LW G qm q qo M' C' o') := hD
  refine lv_istore (lv' := [(6, .int bb), (5, .int k), (4, .int (nI (4 * t))), (3, .ref qo), (2, .ref (qm 0)), (1, .ref (q 0)), (0, .ref b)]) hx hb dL_law_674 hl (by decide) rfl (fun ls hl => ?_)
  refine lv_aload_n hx hb dL_law_676 rfl (lv_at hl 4 rfl) ?_
  refine ro_i (va_runV (As := []) (rest := []) ⟨hx, hb, hml, hown, hts⟩ (kX7_thrown l G qm M' _ rfl) (cwV 0 hts gL_law_X7_thrown rfl rfl rfl (by decide +kernel) ⟨Nat.le_of_ble_eq_true rfl, Nat.le_of_ble_eq_true rfl⟩) (roV (lw_PM hP) hK 8 0 rfl rfl) rfl rfl hl.1 rfl (lv_room (Nat.le_of_ble_eq_true rfl)) dL_law_677 ⟨by show cells + 1 + 0 + 0 ≤ 601024; omega, by show slots + 6 + 0 + 0 ≤ 7293034; omega⟩) ?_
  rw [h7]
  refine lv_iload hx hb dL_law_680 (lv_at hl 1 rfl) ?_
  refine lv_icmp_eq (tgt := 687) hx hb dL_law_682 (by decide) (fun _ => ?_) (fun c_ => absurd rfl c_)
  refine lv_iload hx hb dL_law_687 (lv_at hl 1 rfl) ?_
  refine lv_if_ne (tgt := 704) hx hb dL_law_689 (by decide) (fun _ => ?_) (fun z => ?_)
  · skip
    refine lv_goto (tgt := 2033) hx hb dL_law_704 (by decide) ?_
    exact W.widen (k := cells + 60) (n := slots + 4000) (by omega) (by omega) (hN _ _ _ _ _ _ hI2 hP hD hS (lv_sub hl [2, 3, 4, 5, 6] rfl))
  · skip
    refine lv_aload_n hx hb dL_law_692 rfl (lv_at hl 3 rfl) ?_
    refine lv_iconst (v := 0) hx hb dL_law_693 (by decide) ?_
    refine va_lald (D := G.1) hx hb hK.1 hP 37 3 rfl rfl (by unfold vp_in; decide) dL_law_694 ?_
    rw [show (0 : Int32).toNatClampNeg = 0 from rfl]
    refine lv_iload hx hb dL_law_695 (lv_at hl 0 rfl) ?_
    refine lv_i2l (v := Int32.toInt64 bb) hx hb dL_law_697 rfl ?_
    refine W.lcmp hx hb dL_law_698 ?_
    rw [ho z, lcmp0]
    refine lv_if_eq (tgt := 704) hx hb dL_law_699 (by decide) (fun _ => ?_) (fun c_ => absurd rfl c_)
    refine lv_goto (tgt := 2033) hx hb dL_law_704 (by decide) ?_
    exact W.widen (k := cells + 60) (n := slots + 4000) (by omega) (by omega) (hN _ _ _ _ _ _ hI2 hP hD hS (lv_sub hl [2, 3, 4, 5, 6] rfl))

set_option maxHeartbeats 4000000 in
set_option maxRecDepth 100000 in
theorem law_c7 {p : Program} {l : Launch} {e : Env} {s : State} {m : MethodId} {below : List Frame} {meth : Method} {c : Code} {b L : Nat} {xs : Nat → Int32} {G : GT} {qm q : Nat → Nat} {qo t cells slots : Nat} {Q : State → Prop} {C M : St} {o : Nat → Int64} {H : Heap} {locs : List Loc} {ls : Array Slot} (hL : LE p l s m meth c b L xs G) (ht : 4 * t + 3 < L) (hc : cells + 60 ≤ 601024 ∧ slots + 4000 ≤ 7293034) (hN : LN p l e s m below meth c b G qm q qo t cells slots Q) (hI : Inv C M) (hP : va_P G.1 vwCl (LW G qm q qo M C o) H) (hD : va_D (LA s) (LW G qm q qo M C o)) (hS : va_S (LA s) s.heap H locs) (hl : lv_has ls 9 (lwL b (qm 0) (q 0) qo t)) : W p l e room_1 s m #[.ref b] below meth c H locs cells slots Q (F0 m 707 ls []) := by
  obtain ⟨⟨hx, hb, hr, hts, hown, hml, hlocks⟩, hl0, hK, hE, hZ, hX, hbl, hL2⟩ := hL
  obtain ⟨D, i0, o0, hI⟩ := hI
  obtain ⟨x1, hx1⟩ : ∃ x, xs (4 * t + 1) = x := ⟨_, rfl⟩
  obtain ⟨k, bb, M', C', o', hw, hM, hI2, h7, ho⟩ := agW (cd := cdL_choose) ((aDecide hI x1).1) (by intro k; unfold cdL_choose; (repeat' split) <;> decide) Int32.toInt64 o
  refine lv_aload_n hx hb dL_law_707 rfl (lv_at hl 3 rfl) ?_
  refine lv_aload_n hx hb dL_law_708 rfl (lv_at hl 4 rfl) ?_
  refine lv_iload hx hb dL_law_709 (lv_at hl 0 rfl) ?_
  refine lv_iconst (v := 1) hx hb dL_law_711 (by decide) ?_
  refine lv_iadd hx hb dL_law_712 ?_
  rw [show (nI (4 * t) + 1 : Int32) = nI (4 * t + 1) from nI_add (4 * t) 1]
  refine va_sld hx hb hX hbl (Nat.not_le_of_lt hbl) hS (vp_in_nI (by omega) (by omega)) dL_law_713 ?_
  rw [nI_clamp (n := 4 * t + 1) (by omega), hx1]
  refine lv_aload_n hx hb dL_law_714 rfl (lv_at hl 1 rfl) ?_
  refine lw_x (vx_runSW (As := [.ref (q 0), .int x1, .ref qo]) (rest := []) ⟨hx, hb, hml, hown, hts⟩ (kL_choose l hl0 G q qo C o _ x1 _ hw) (vx_cwSW 3 hts gL_law_L_choose rfl rfl rfl (by decide +kernel) ⟨Nat.le_of_ble_eq_true rfl, Nat.le_of_ble_eq_true rfl⟩) (xS (lw_PX hP) (lw_DX hD) hS hK lw_hA hE) rfl rfl hl.1 rfl (lv_room (Nat.le_of_ble_eq_true rfl)) dL_law_715 ⟨by show cells + 1 ≤ 601024; omega, by show slots + 6 ≤ 7293034; omega⟩) hP hD hS (fun H locs hP hD hS => ?_)
  have hP : va_P G.1 vwCl (LW G qm q qo M C' o') H := hP
  have hD : va_D (LA s) (LW G qm q qo M C' o') := hD
  refine lv_istore (lv' := [(5, .int k), (4, .int (nI (4 * t))), (3, .ref qo), (2, .ref (qm 0)), (1, .ref (q 0)), (0, .ref b)]) hx hb dL_law_718 hl (by decide) rfl (fun ls hl => ?_)
  refine lv_aload_n hx hb dL_law_720 rfl (lv_at hl 3 rfl) ?_
  refine lv_aload_n hx hb dL_law_721 rfl (lv_at hl 5 rfl) ?_
  refine lv_iload hx hb dL_law_722 (lv_at hl 1 rfl) ?_
  refine lv_iconst (v := 1) hx hb dL_law_724 (by decide) ?_
  refine lv_iadd hx hb dL_law_725 ?_
  rw [show (nI (4 * t) + 1 : Int32) = nI (4 * t + 1) from nI_add (4 * t) 1]
  refine va_sld hx hb hX hbl (Nat.not_le_of_lt hbl) hS (vp_in_nI (by omega) (by omega)) dL_law_726 ?_
  rw [nI_clamp (n := 4 * t + 1) (by omega), hx1]
  refine lm_i (va_runV (As := [.int x1]) (rest := []) ⟨hx, hb, hml, hown, hts⟩ (kX7_choose l G qm M _ x1 _ hM) (cwV 1 hts gL_law_X7_choose rfl rfl rfl (by decide +kernel) ⟨Nat.le_of_ble_eq_true rfl, Nat.le_of_ble_eq_true rfl⟩) (wrV (lw_PM hP) (lw_DM hD) hK 8 0 rfl rfl) rfl rfl hl.1 rfl (lv_room (Nat.le_of_ble_eq_true rfl)) dL_law_727 ⟨by show cells + 1 + 0 ≤ 601024; omega, by show slots + 6 + 0 ≤ 7293034; omega⟩) hP hD hS (fun H locs hP hD hS => ?_)
  have hP : va_P G.1 vwCl (LW G qm q qo M' C' o') H := hP
  have hD : va_D (LA s) (LW G qm q qo M' C' o') := hD
  refine lv_istore (lv' := [(6, .int bb), (5, .int k), (4, .int (nI (4 * t))), (3, .ref qo), (2, .ref (qm 0)), (1, .ref (q 0)), (0, .ref b)]) hx hb dL_law_730 hl (by decide) rfl (fun ls hl => ?_)
  refine lv_aload_n hx hb dL_law_732 rfl (lv_at hl 4 rfl) ?_
  refine ro_i (va_runV (As := []) (rest := []) ⟨hx, hb, hml, hown, hts⟩ (kX7_thrown l G qm M' _ rfl) (cwV 0 hts gL_law_X7_thrown rfl rfl rfl (by decide +kernel) ⟨Nat.le_of_ble_eq_true rfl, Nat.le_of_ble_eq_true rfl⟩) (roV (lw_PM hP) hK 8 0 rfl rfl) rfl rfl hl.1 rfl (lv_room (Nat.le_of_ble_eq_true rfl)) dL_law_733 ⟨by show cells + 1 + 0 + 0 ≤ 601024; omega, by show slots + 6 + 0 + 0 ≤ 7293034; omega⟩) ?_
  rw [h7]
  refine lv_iload hx hb dL_law_736 (lv_at hl 1 rfl) ?_
  refine lv_icmp_eq (tgt := 743) hx hb dL_law_738 (by decide) (fun _ => ?_) (fun c_ => absurd rfl c_)
  refine lv_iload hx hb dL_law_743 (lv_at hl 1 rfl) ?_
  refine lv_if_ne (tgt := 760) hx hb dL_law_745 (by decide) (fun _ => ?_) (fun z => ?_)
  · skip
    refine lv_goto (tgt := 2033) hx hb dL_law_760 (by decide) ?_
    exact W.widen (k := cells + 60) (n := slots + 4000) (by omega) (by omega) (hN _ _ _ _ _ _ hI2 hP hD hS (lv_sub hl [2, 3, 4, 5, 6] rfl))
  · skip
    refine lv_aload_n hx hb dL_law_748 rfl (lv_at hl 3 rfl) ?_
    refine lv_iconst (v := 0) hx hb dL_law_749 (by decide) ?_
    refine va_lald (D := G.1) hx hb hK.1 hP 37 3 rfl rfl (by unfold vp_in; decide) dL_law_750 ?_
    rw [show (0 : Int32).toNatClampNeg = 0 from rfl]
    refine lv_iload hx hb dL_law_751 (lv_at hl 0 rfl) ?_
    refine lv_i2l (v := Int32.toInt64 bb) hx hb dL_law_753 rfl ?_
    refine W.lcmp hx hb dL_law_754 ?_
    rw [ho z, lcmp0]
    refine lv_if_eq (tgt := 760) hx hb dL_law_755 (by decide) (fun _ => ?_) (fun c_ => absurd rfl c_)
    refine lv_goto (tgt := 2033) hx hb dL_law_760 (by decide) ?_
    exact W.widen (k := cells + 60) (n := slots + 4000) (by omega) (by omega) (hN _ _ _ _ _ _ hI2 hP hD hS (lv_sub hl [2, 3, 4, 5, 6] rfl))

