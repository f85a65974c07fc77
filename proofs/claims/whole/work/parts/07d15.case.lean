set_option maxHeartbeats 4000000 in
set_option maxRecDepth 100000 in
theorem law_c24 {p : Program} {l : Launch} {e : Env} {s : State} {m : MethodId} {below : List Frame} {meth : Method} {c : Code} {b L : Nat} {xs : Nat → Int32} {G : GT} {qm q : Nat → Nat} {qo t cells slots : Nat} {Q : State → Prop} {C M : St} {o : Nat → Int64} {H : Heap} {locs : List Loc} {ls : Array Slot} (hL : LE p l s m meth c b L xs G) (ht : 4 * t + 3 < L) (hc : cells + 60 ≤ 601024 ∧ slots + 4000 ≤ 7293034) (hN : LN p l e s m below meth c b G qm q qo t cells slots Q) (hI : Inv C M) (hP : va_P G.1 vwCl (LW G qm q qo M C o) H) (hD : va_D (LA s) (LW G qm q qo M C o)) (hS : va_S (LA s) s.heap H locs) (hl : lv_has ls 9 (lwL b (qm 0) (q 0) qo t)) : W p l e room_1 s m #[.ref b] below meth c H locs cells slots Q (F0 m 1520 ls []) := by
  obtain ⟨⟨hx, hb, hr, hts, hown, hml, hlocks⟩, hl0, hK, hE, hZ, hX, hbl, hL2⟩ := hL
  obtain ⟨D, i0, o0, hI⟩ := hI
  obtain ⟨x1, hx1⟩ : ∃ x, xs (4 * t + 1) = x := ⟨_, rfl⟩
  obtain ⟨k, bb, M', C', o', hw, hM, hI2, h7, ho⟩ := agR (cd := cdL_price) (aPrice hI x1) (by intro k; unfold cdL_price; (repeat' split) <;> decide) Int32.toInt64 o
  refine lv_aload_n hx hb dL_law_1520 rfl (lv_at hl 3 rfl) ?_
  refine lv_aload_n hx hb dL_law_1521 rfl (lv_at hl 4 rfl) ?_
  refine lv_iload hx hb dL_law_1522 (lv_at hl 0 rfl) ?_
  refine lv_iconst (v := 1) hx hb dL_law_1524 (by decide) ?_
  refine lv_iadd hx hb dL_law_1525 ?_
  rw [show (nI (4 * t) + 1 : Int32) = nI (4 * t + 1) from nI_add (4 * t) 1]
  refine va_sld hx hb hX hbl (Nat.not_le_of_lt hbl) hS (vp_in_nI (by omega) (by omega)) dL_law_1526 ?_
  rw [nI_clamp (n := 4 * t + 1) (by omega), hx1]
  refine lv_aload_n hx hb dL_law_1527 rfl (lv_at hl 1 rfl) ?_
  refine lw_x (vx_runSW (As := [.ref (q 0), .int x1, .ref qo]) (rest := []) ⟨hx, hb, hml, hown, hts⟩ (kL_price l hl0 G q qo C o _ x1 _ hw) (vx_cwSW 3 hts gL_law_L_price rfl rfl rfl (by decide +kernel) ⟨Nat.le_of_ble_eq_true rfl, Nat.le_of_ble_eq_true rfl⟩) (xS (lw_PX hP) (lw_DX hD) hS hK lw_hA hE) rfl rfl hl.1 rfl (lv_room (Nat.le_of_ble_eq_true rfl)) dL_law_1528 ⟨by show cells + 1 ≤ 601024; omega, by show slots + 6 ≤ 7293034; omega⟩) hP hD hS (fun H locs hP hD hS => ?_)
  have hP : va_P G.1 vwCl (LW G qm q qo M C' o') H := hP
  have hD : va_D (LA s) (LW G qm q qo M C' o') := hD
  refine lv_istore (lv' := [(5, .int k), (4, .int (nI (4 * t))), (3, .ref qo), (2, .ref (qm 0)), (1, .ref (q 0)), (0, .ref b)]) hx hb dL_law_1531 hl (by decide) rfl (fun ls hl => ?_)
  refine lv_aload_n hx hb dL_law_1533 rfl (lv_at hl 3 rfl) ?_
  refine lv_aload_n hx hb dL_law_1534 rfl (lv_at hl 5 rfl) ?_
  refine lv_iload hx hb dL_law_1535 (lv_at hl 1 rfl) ?_
  refine lv_iconst (v := 1) hx hb dL_law_1537 (by decide) ?_
  refine lv_iadd hx hb dL_law_1538 ?_
  rw [show (nI (4 * t) + 1 : Int32) = nI (4 * t + 1) from nI_add (4 * t) 1]
  refine va_sld hx hb hX hbl (Nat.not_le_of_lt hbl) hS (vp_in_nI (by omega) (by omega)) dL_law_1539 ?_
  rw [nI_clamp (n := 4 * t + 1) (by omega), hx1]
  refine lm_i (va_runV (As := [.int x1]) (rest := []) ⟨hx, hb, hml, hown, hts⟩ (kX7_price l G qm M _ x1 _ hM) (cwV 1 hts gL_law_X7_price rfl rfl rfl (by decide +kernel) ⟨Nat.le_of_ble_eq_true rfl, Nat.le_of_ble_eq_true rfl⟩) (wrV (lw_PM hP) (lw_DM hD) hK 8 0 rfl rfl) rfl rfl hl.1 rfl (lv_room (Nat.le_of_ble_eq_true rfl)) dL_law_1540 ⟨by show cells + 1 + 0 ≤ 601024; omega, by show slots + 6 + 0 ≤ 7293034; omega⟩) hP hD hS (fun H locs hP hD hS => ?_)
  have hP : va_P G.1 vwCl (LW G qm q qo M' C' o') H := hP
  have hD : va_D (LA s) (LW G qm q qo M' C' o') := hD
  refine lv_istore (lv' := [(6, .int bb), (5, .int k), (4, .int (nI (4 * t))), (3, .ref qo), (2, .ref (qm 0)), (1, .ref (q 0)), (0, .ref b)]) hx hb dL_law_1543 hl (by decide) rfl (fun ls hl => ?_)
  refine lv_aload_n hx hb dL_law_1545 rfl (lv_at hl 4 rfl) ?_
  refine ro_i (va_runV (As := []) (rest := []) ⟨hx, hb, hml, hown, hts⟩ (kX7_thrown l G qm M' _ rfl) (cwV 0 hts gL_law_X7_thrown rfl rfl rfl (by decide +kernel) ⟨Nat.le_of_ble_eq_true rfl, Nat.le_of_ble_eq_true rfl⟩) (roV (lw_PM hP) hK 8 0 rfl rfl) rfl rfl hl.1 rfl (lv_room (Nat.le_of_ble_eq_true rfl)) dL_law_1546 ⟨by show cells + 1 + 0 + 0 ≤ 601024; omega, by show slots + 6 + 0 + 0 ≤ 7293034; omega⟩) ?_
  rw [h7]
  refine lv_iload hx hb dL_law_1549 (lv_at hl 1 rfl) ?_
  refine lv_icmp_eq (tgt := 1556) hx hb dL_law_1551 (by decide) (fun _ => ?_) (fun c_ => absurd rfl c_)
  refine lv_iload hx hb dL_law_1556 (lv_at hl 1 rfl) ?_
  refine lv_if_ne (tgt := 1573) hx hb dL_law_1558 (by decide) (fun _ => ?_) (fun z => ?_)
  · skip
    refine lv_goto (tgt := 2033) hx hb dL_law_1573 (by decide) ?_
    exact W.widen (k := cells + 60) (n := slots + 4000) (by omega) (by omega) (hN _ _ _ _ _ _ hI2 hP hD hS (lv_sub hl [2, 3, 4, 5, 6] rfl))
  · skip
    refine lv_aload_n hx hb dL_law_1561 rfl (lv_at hl 3 rfl) ?_
    refine lv_iconst (v := 0) hx hb dL_law_1562 (by decide) ?_
    refine va_lald (D := G.1) hx hb hK.1 hP 37 3 rfl rfl (by unfold vp_in; decide) dL_law_1563 ?_
    rw [show (0 : Int32).toNatClampNeg = 0 from rfl]
    refine lv_iload hx hb dL_law_1564 (lv_at hl 0 rfl) ?_
    refine lv_i2l (v := Int32.toInt64 bb) hx hb dL_law_1566 rfl ?_
    refine W.lcmp hx hb dL_law_1567 ?_
    rw [ho z, lcmp0]
    refine lv_if_eq (tgt := 1573) hx hb dL_law_1568 (by decide) (fun _ => ?_) (fun c_ => absurd rfl c_)
    refine lv_goto (tgt := 2033) hx hb dL_law_1573 (by decide) ?_
    exact W.widen (k := cells + 60) (n := slots + 4000) (by omega) (by omega) (hN _ _ _ _ _ _ hI2 hP hD hS (lv_sub hl [2, 3, 4, 5, 6] rfl))

set_option maxHeartbeats 4000000 in
set_option maxRecDepth 100000 in
theorem law_c28 {p : Program} {l : Launch} {e : Env} {s : State} {m : MethodId} {below : List Frame} {meth : Method} {c : Code} {b L : Nat} {xs : Nat → Int32} {G : GT} {qm q : Nat → Nat} {qo t cells slots : Nat} {Q : State → Prop} {C M : St} {o : Nat → Int64} {H : Heap} {locs : List Loc} {ls : Array Slot} (hL : LE p l s m meth c b L xs G) (ht : 4 * t + 3 < L) (hc : cells + 60 ≤ 601024 ∧ slots + 4000 ≤ 7293034) (hN : LN p l e s m below meth c b G qm q qo t cells slots Q) (hI : Inv C M) (hP : va_P G.1 vwCl (LW G qm q qo M C o) H) (hD : va_D (LA s) (LW G qm q qo M C o)) (hS : va_S (LA s) s.heap H locs) (hl : lv_has ls 9 (lwL b (qm 0) (q 0) qo t)) : W p l e room_1 s m #[.ref b] below meth c H locs cells slots Q (F0 m 1615 ls []) := by
  obtain ⟨⟨hx, hb, hr, hts, hown, hml, hlocks⟩, hl0, hK, hE, hZ, hX, hbl, hL2⟩ := hL
  obtain ⟨D, i0, o0, hI⟩ := hI
  obtain ⟨x1, hx1⟩ : ∃ x, xs (4 * t + 1) = x := ⟨_, rfl⟩
  obtain ⟨x2, hx2⟩ : ∃ x, xs (4 * t + 2) = x := ⟨_, rfl⟩
  by_cases hz : x2 = 0
  · skip
    obtain ⟨k, bb, M', C', o', hw, hM, hI2, h7, ho⟩ := agR (cd := cdL_fewest) ((aFewest hI x1 false).1) (by intro k; unfold cdL_fewest; (repeat' split) <;> decide) Int32.toInt64 o
    refine lv_aload_n hx hb dL_law_1615 rfl (lv_at hl 3 rfl) ?_
    refine lv_aload_n hx hb dL_law_1616 rfl (lv_at hl 4 rfl) ?_
    refine lv_iload hx hb dL_law_1617 (lv_at hl 0 rfl) ?_
    refine lv_iconst (v := 1) hx hb dL_law_1619 (by decide) ?_
    refine lv_iadd hx hb dL_law_1620 ?_
    rw [show (nI (4 * t) + 1 : Int32) = nI (4 * t + 1) from nI_add (4 * t) 1]
    refine va_sld hx hb hX hbl (Nat.not_le_of_lt hbl) hS (vp_in_nI (by omega) (by omega)) dL_law_1621 ?_
    rw [nI_clamp (n := 4 * t + 1) (by omega), hx1]
    refine lv_aload_n hx hb dL_law_1622 rfl (lv_at hl 4 rfl) ?_
    refine lv_iload hx hb dL_law_1623 (lv_at hl 0 rfl) ?_
    refine lv_iconst (v := 2) hx hb dL_law_1625 (by decide) ?_
    refine lv_iadd hx hb dL_law_1626 ?_
    rw [show (nI (4 * t) + 2 : Int32) = nI (4 * t + 2) from nI_add (4 * t) 2]
    refine va_sld hx hb hX hbl (Nat.not_le_of_lt hbl) hS (vp_in_nI (by omega) (by omega)) dL_law_1627 ?_
    rw [nI_clamp (n := 4 * t + 2) (by omega), hx2]
    refine lv_if_eq (tgt := 1635) hx hb dL_law_1628 (by decide) (fun _ => ?_) (fun c_ => absurd hz c_)
    refine lv_iconst (v := 0) hx hb dL_law_1635 (by decide) ?_
    refine lv_aload_n hx hb dL_law_1636 rfl (lv_at hl 1 rfl) ?_
    refine lw_x (vx_runSW (As := [.ref (q 0), .int x1, .int 0, .ref qo]) (rest := []) ⟨hx, hb, hml, hown, hts⟩ (kL_fewest l hl0 G q qo C o _ x1 0 _ hw) (vx_cwSW 4 hts gL_law_L_fewest rfl rfl rfl (by decide +kernel) ⟨Nat.le_of_ble_eq_true rfl, Nat.le_of_ble_eq_true rfl⟩) (xS (lw_PX hP) (lw_DX hD) hS hK lw_hA hE) rfl rfl hl.1 rfl (lv_room (Nat.le_of_ble_eq_true rfl)) dL_law_1637 ⟨by show cells + 1 ≤ 601024; omega, by show slots + 6 ≤ 7293034; omega⟩) hP hD hS (fun H locs hP hD hS => ?_)
    have hP : va_P G.1 vwCl (LW G qm q qo M C' o') H := hP
    have hD : va_D (LA s) (LW G qm q qo M C' o') := hD
    refine lv_istore (lv' := [(5, .int k), (4, .int (nI (4 * t))), (3, .ref qo), (2, .ref (qm 0)), (1, .ref (q 0)), (0, .ref b)]) hx hb dL_law_1640 hl (by decide) rfl (fun ls hl => ?_)
    refine lv_aload_n hx hb dL_law_1642 rfl (lv_at hl 3 rfl) ?_
    refine lv_aload_n hx hb dL_law_1643 rfl (lv_at hl 5 rfl) ?_
    refine lv_iload hx hb dL_law_1644 (lv_at hl 1 rfl) ?_
    refine lv_iconst (v := 1) hx hb dL_law_1646 (by decide) ?_
    refine lv_iadd hx hb dL_law_1647 ?_
    rw [show (nI (4 * t) + 1 : Int32) = nI (4 * t + 1) from nI_add (4 * t) 1]
    refine va_sld hx hb hX hbl (Nat.not_le_of_lt hbl) hS (vp_in_nI (by omega) (by omega)) dL_law_1648 ?_
    rw [nI_clamp (n := 4 * t + 1) (by omega), hx1]
    refine lv_aload_n hx hb dL_law_1649 rfl (lv_at hl 5 rfl) ?_
    refine lv_iload hx hb dL_law_1650 (lv_at hl 1 rfl) ?_
    refine lv_iconst (v := 2) hx hb dL_law_1652 (by decide) ?_
    refine lv_iadd hx hb dL_law_1653 ?_
    rw [show (nI (4 * t) + 2 : Int32) = nI (4 * t + 2) from nI_add (4 * t) 2]
    refine va_sld hx hb hX hbl (Nat.not_le_of_lt hbl) hS (vp_in_nI (by omega) (by omega)) dL_law_1654 ?_
    rw [nI_clamp (n := 4 * t + 2) (by omega), hx2]
    refine lv_if_eq (tgt := 1662) hx hb dL_law_1655 (by decide) (fun _ => ?_) (fun c_ => absurd hz c_)
    refine lv_iconst (v := 0) hx hb dL_law_1662 (by decide) ?_
    refine lm_i (va_runV (As := [.int x1, .int 0]) (rest := []) ⟨hx, hb, hml, hown, hts⟩ (kX7_fewest l G qm M _ x1 0 _ hM) (cwV 2 hts gL_law_X7_fewest rfl rfl rfl (by decide +kernel) ⟨Nat.le_of_ble_eq_true rfl, Nat.le_of_ble_eq_true rfl⟩) (wrV (lw_PM hP) (lw_DM hD) hK 8 0 rfl rfl) rfl rfl hl.1 rfl (lv_room (Nat.le_of_ble_eq_true rfl)) dL_law_1663 ⟨by show cells + 1 + 0 ≤ 601024; omega, by show slots + 6 + 0 ≤ 7293034; omega⟩) hP hD hS (fun H locs hP hD hS => ?_)
    have hP : va_P G.1 vwCl (LW G qm q qo M' C' o') H := hP
    have hD : va_D (LA s) (LW G qm q qo M' C' o') := hD
    refine lv_istore (lv' := [(6, .int bb), (5, .int k), (4, .int (nI (4 * t))), (3, .ref qo), (2, .ref (qm 0)), (1, .ref (q 0)), (0, .ref b)]) hx hb dL_law_1666 hl (by decide) rfl (fun ls hl => ?_)
    refine lv_aload_n hx hb dL_law_1668 rfl (lv_at hl 4 rfl) ?_
    refine ro_i (va_runV (As := []) (rest := []) ⟨hx, hb, hml, hown, hts⟩ (kX7_thrown l G qm M' _ rfl) (cwV 0 hts gL_law_X7_thrown rfl rfl rfl (by decide +kernel) ⟨Nat.le_of_ble_eq_true rfl, Nat.le_of_ble_eq_true rfl⟩) (roV (lw_PM hP) hK 8 0 rfl rfl) rfl rfl hl.1 rfl (lv_room (Nat.le_of_ble_eq_true rfl)) dL_law_1669 ⟨by show cells + 1 + 0 + 0 ≤ 601024; omega, by show slots + 6 + 0 + 0 ≤ 7293034; omega⟩) ?_
    rw [h7]
    refine lv_iload hx hb dL_law_1672 (lv_at hl 1 rfl) ?_
    refine lv_icmp_eq (tgt := 1679) hx hb dL_law_1674 (by decide) (fun _ => ?_) (fun c_ => absurd rfl c_)
    refine lv_iload hx hb dL_law_1679 (lv_at hl 1 rfl) ?_
    refine lv_if_ne (tgt := 1696) hx hb dL_law_1681 (by decide) (fun _ => ?_) (fun z => ?_)
    · skip
      refine lv_goto (tgt := 2033) hx hb dL_law_1696 (by decide) ?_
      exact W.widen (k := cells + 60) (n := slots + 4000) (by omega) (by omega) (hN _ _ _ _ _ _ hI2 hP hD hS (lv_sub hl [2, 3, 4, 5, 6] rfl))
    · skip
      refine lv_aload_n hx hb dL_law_1684 rfl (lv_at hl 3 rfl) ?_
      refine lv_iconst (v := 0) hx hb dL_law_1685 (by decide) ?_
      refine va_lald (D := G.1) hx hb hK.1 hP 37 3 rfl rfl (by unfold vp_in; decide) dL_law_1686 ?_
      rw [show (0 : Int32).toNatClampNeg = 0 from rfl]
      refine lv_iload hx hb dL_law_1687 (lv_at hl 0 rfl) ?_
      refine lv_i2l (v := Int32.toInt64 bb) hx hb dL_law_1689 rfl ?_
      refine W.lcmp hx hb dL_law_1690 ?_
      rw [ho z, lcmp0]
      refine lv_if_eq (tgt := 1696) hx hb dL_law_1691 (by decide) (fun _ => ?_) (fun c_ => absurd rfl c_)
      refine lv_goto (tgt := 2033) hx hb dL_law_1696 (by decide) ?_
      exact W.widen (k := cells + 60) (n := slots + 4000) (by omega) (by omega) (hN _ _ _ _ _ _ hI2 hP hD hS (lv_sub hl [2, 3, 4, 5, 6] rfl))
  · skip
    obtain ⟨k, bb, M', C', o', hw, hM, hI2, h7, ho⟩ := agR (cd := cdL_fewest) ((aFewest hI x1 true).1) (by intro k; unfold cdL_fewest; (repeat' split) <;> decide) Int32.toInt64 o
    refine lv_aload_n hx hb dL_law_1615 rfl (lv_at hl 3 rfl) ?_
    refine lv_aload_n hx hb dL_law_1616 rfl (lv_at hl 4 rfl) ?_
    refine lv_iload hx hb dL_law_1617 (lv_at hl 0 rfl) ?_
    refine lv_iconst (v := 1) hx hb dL_law_1619 (by decide) ?_
    refine lv_iadd hx hb dL_law_1620 ?_
    rw [show (nI (4 * t) + 1 : Int32) = nI (4 * t + 1) from nI_add (4 * t) 1]
    refine va_sld hx hb hX hbl (Nat.not_le_of_lt hbl) hS (vp_in_nI (by omega) (by omega)) dL_law_1621 ?_
    rw [nI_clamp (n := 4 * t + 1) (by omega), hx1]
    refine lv_aload_n hx hb dL_law_1622 rfl (lv_at hl 4 rfl) ?_
    refine lv_iload hx hb dL_law_1623 (lv_at hl 0 rfl) ?_
    refine lv_iconst (v := 2) hx hb dL_law_1625 (by decide) ?_
    refine lv_iadd hx hb dL_law_1626 ?_
    rw [show (nI (4 * t) + 2 : Int32) = nI (4 * t + 2) from nI_add (4 * t) 2]
    refine va_sld hx hb hX hbl (Nat.not_le_of_lt hbl) hS (vp_in_nI (by omega) (by omega)) dL_law_1627 ?_
    rw [nI_clamp (n := 4 * t + 2) (by omega), hx2]
    refine lv_if_eq (tgt := 1635) hx hb dL_law_1628 (by decide) (fun c_ => absurd c_ hz) (fun _ => ?_)
    refine lv_iconst (v := 1) hx hb dL_law_1631 (by decide) ?_
    refine lv_goto (tgt := 1636) hx hb dL_law_1632 (by decide) ?_
    refine lv_aload_n hx hb dL_law_1636 rfl (lv_at hl 1 rfl) ?_
    refine lw_x (vx_runSW (As := [.ref (q 0), .int x1, .int 1, .ref qo]) (rest := []) ⟨hx, hb, hml, hown, hts⟩ (kL_fewest l hl0 G q qo C o _ x1 1 _ hw) (vx_cwSW 4 hts gL_law_L_fewest rfl rfl rfl (by decide +kernel) ⟨Nat.le_of_ble_eq_true rfl, Nat.le_of_ble_eq_true rfl⟩) (xS (lw_PX hP) (lw_DX hD) hS hK lw_hA hE) rfl rfl hl.1 rfl (lv_room (Nat.le_of_ble_eq_true rfl)) dL_law_1637 ⟨by show cells + 1 ≤ 601024; omega, by show slots + 6 ≤ 7293034; omega⟩) hP hD hS (fun H locs hP hD hS => ?_)
    have hP : va_P G.1 vwCl (LW G qm q qo M C' o') H := hP
    have hD : va_D (LA s) (LW G qm q qo M C' o') := hD
    refine lv_istore (lv' := [(5, .int k), (4, .int (nI (4 * t))), (3, .ref qo), (2, .ref (qm 0)), (1, .ref (q 0)), (0, .ref b)]) hx hb dL_law_1640 hl (by decide) rfl (fun ls hl => ?_)
    refine lv_aload_n hx hb dL_law_1642 rfl (lv_at hl 3 rfl) ?_
    refine lv_aload_n hx hb dL_law_1643 rfl (lv_at hl 5 rfl) ?_
    refine lv_iload hx hb dL_law_1644 (lv_at hl 1 rfl) ?_
    refine lv_iconst (v := 1) hx hb dL_law_1646 (by decide) ?_
    refine lv_iadd hx hb dL_law_1647 ?_
    rw [show (nI (4 * t) + 1 : Int32) = nI (4 * t + 1) from nI_add (4 * t) 1]
    refine va_sld hx hb hX hbl (Nat.not_le_of_lt hbl) hS (vp_in_nI (by omega) (by omega)) dL_law_1648 ?_
    rw [nI_clamp (n := 4 * t + 1) (by omega), hx1]
    refine lv_aload_n hx hb dL_law_1649 rfl (lv_at hl 5 rfl) ?_
    refine lv_iload hx hb dL_law_1650 (lv_at hl 1 rfl) ?_
    refine lv_iconst (v := 2) hx hb dL_law_1652 (by decide) ?_
    refine lv_iadd hx hb dL_law_1653 ?_
    rw [show (nI (4 * t) + 2 : Int32) = nI (4 * t + 2) from nI_add (4 * t) 2]
    refine va_sld hx hb hX hbl (Nat.not_le_of_lt hbl) hS (vp_in_nI (by omega) (by omega)) dL_law_1654 ?_
    rw [nI_clamp (n := 4 * t + 2) (by omega), hx2]
    refine lv_if_eq (tgt := 1662) hx hb dL_law_1655 (by decide) (fun c_ => absurd c_ hz) (fun _ => ?_)
    refine lv_iconst (v := 1) hx hb dL_law_1658 (by decide) ?_
    refine lv_goto (tgt := 1663) hx hb dL_law_1659 (by decide) ?_
    refine lm_i (va_runV (As := [.int x1, .int 1]) (rest := []) ⟨hx, hb, hml, hown, hts⟩ (kX7_fewest l G qm M _ x1 1 _ hM) (cwV 2 hts gL_law_X7_fewest rfl rfl rfl (by decide +kernel) ⟨Nat.le_of_ble_eq_true rfl, Nat.le_of_ble_eq_true rfl⟩) (wrV (lw_PM hP) (lw_DM hD) hK 8 0 rfl rfl) rfl rfl hl.1 rfl (lv_room (Nat.le_of_ble_eq_true rfl)) dL_law_1663 ⟨by show cells + 1 + 0 ≤ 601024; omega, by show slots + 6 + 0 ≤ 7293034; omega⟩) hP hD hS (fun H locs hP hD hS => ?_)
    have hP : va_P G.1 vwCl (LW G qm q qo M' C' o') H := hP
    have hD : va_D (LA s) (LW G qm q qo M' C' o') := hD
    refine lv_istore (lv' := [(6, .int bb), (5, .int k), (4, .int (nI (4 * t))), (3, .ref qo), (2, .ref (qm 0)), (1, .ref (q 0)), (0, .ref b)]) hx hb dL_law_1666 hl (by decide) rfl (fun ls hl => ?_)
    refine lv_aload_n hx hb dL_law_1668 rfl (lv_at hl 4 rfl) ?_
    refine ro_i (va_runV (As := []) (rest := []) ⟨hx, hb, hml, hown, hts⟩ (kX7_thrown l G qm M' _ rfl) (cwV 0 hts gL_law_X7_thrown rfl rfl rfl (by decide +kernel) ⟨Nat.le_of_ble_eq_true rfl, Nat.le_of_ble_eq_true rfl⟩) (roV (lw_PM hP) hK 8 0 rfl rfl) rfl rfl hl.1 rfl (lv_room (Nat.le_of_ble_eq_true rfl)) dL_law_1669 ⟨by show cells + 1 + 0 + 0 ≤ 601024; omega, by show slots + 6 + 0 + 0 ≤ 7293034; omega⟩) ?_
    rw [h7]
    refine lv_iload hx hb dL_law_1672 (lv_at hl 1 rfl) ?_
    refine lv_icmp_eq (tgt := 1679) hx hb dL_law_1674 (by decide) (fun _ => ?_) (fun c_ => absurd rfl c_)
    refine lv_iload hx hb dL_law_1679 (lv_at hl 1 rfl) ?_
    refine lv_if_ne (tgt := 1696) hx hb dL_law_1681 (by decide) (fun _ => ?_) (fun z => ?_)
    · skip
      refine lv_goto (tgt := 2033) hx hb dL_law_1696 (by decide) ?_
      exact W.widen (k := cells + 60) (n := slots + 4000) (by omega) (by omega) (hN _ _ _ _ _ _ hI2 hP hD hS (lv_sub hl [2, 3, 4, 5, 6] rfl))
    · skip
      refine lv_aload_n hx hb dL_law_1684 rfl (lv_at hl 3 rfl) ?_
      refine lv_iconst (v := 0) hx hb dL_law_1685 (by decide) ?_
      refine va_lald (D := G.1) hx hb hK.1 hP 37 3 rfl rfl (by unfold vp_in; decide) dL_law_1686 ?_
      rw [show (0 : Int32).toNatClampNeg = 0 from rfl]
      refine lv_iload hx hb dL_law_1687 (lv_at hl 0 rfl) ?_
      refine lv_i2l (v := Int32.toInt64 bb) hx hb dL_law_1689 rfl ?_
      refine W.lcmp hx hb dL_law_1690 ?_
      rw [ho z, lcmp0]
      refine lv_if_eq (tgt := 1696) hx hb dL_law_1691 (by decide) (fun _ => ?_) (fun c_ => absurd rfl c_)
      refine lv_goto (tgt := 2033) hx hb dL_law_1696 (by decide) ?_
      exact W.widen (k := cells + 60) (n := slots + 4000) (by omega) (by omega) (hN _ _ _ _ _ _ hI2 hP hD hS (lv_sub hl [2, 3, 4, 5, 6] rfl))

set_option maxHeartbeats 4000000 in
set_option maxRecDepth 100000 in
theorem law_c29 {p : Program} {l : Launch} {e : Env} {s : State} {m : MethodId} {below : List Frame} {meth : Method} {c : Code} {b L : Nat} {xs : Nat → Int32} {G : GT} {qm q : Nat → Nat} {qo t cells slots : Nat} {Q : State → Prop} {C M : St} {o : Nat → Int64} {H : Heap} {locs : List Loc} {ls : Array Slot} (hL : LE p l s m meth c b L xs G) (ht : 4 * t + 3 < L) (hc : cells + 60 ≤ 601024 ∧ slots + 4000 ≤ 7293034) (hN : LN p l e s m below meth c b G qm q qo t cells slots Q) (hI : Inv C M) (hP : va_P G.1 vwCl (LW G qm q qo M C o) H) (hD : va_D (LA s) (LW G qm q qo M C o)) (hS : va_S (LA s) s.heap H locs) (hl : lv_has ls 9 (lwL b (qm 0) (q 0) qo t)) : W p l e room_1 s m #[.ref b] below meth c H locs cells slots Q (F0 m 1699 ls []) := by
  obtain ⟨⟨hx, hb, hr, hts, hown, hml, hlocks⟩, hl0, hK, hE, hZ, hX, hbl, hL2⟩ := hL
  obtain ⟨D, i0, o0, hI⟩ := hI
  obtain ⟨x1, hx1⟩ : ∃ x, xs (4 * t + 1) = x := ⟨_, rfl⟩
  obtain ⟨x2, hx2⟩ : ∃ x, xs (4 * t + 2) = x := ⟨_, rfl⟩
  by_cases hz : x2 = 0
  · skip
    obtain ⟨k, bb, M', C', o', hw, hM, hI2, h7, ho⟩ := agR (cd := cdL_toRetract) ((aFewest hI x1 false).2) (by intro k; unfold cdL_toRetract; (repeat' split) <;> decide) Int32.toInt64 o
    refine lv_aload_n hx hb dL_law_1699 rfl (lv_at hl 3 rfl) ?_
    refine lv_aload_n hx hb dL_law_1700 rfl (lv_at hl 4 rfl) ?_
    refine lv_iload hx hb dL_law_1701 (lv_at hl 0 rfl) ?_
    refine lv_iconst (v := 1) hx hb dL_law_1703 (by decide) ?_
    refine lv_iadd hx hb dL_law_1704 ?_
    rw [show (nI (4 * t) + 1 : Int32) = nI (4 * t + 1) from nI_add (4 * t) 1]
    refine va_sld hx hb hX hbl (Nat.not_le_of_lt hbl) hS (vp_in_nI (by omega) (by omega)) dL_law_1705 ?_
    rw [nI_clamp (n := 4 * t + 1) (by omega), hx1]
    refine lv_aload_n hx hb dL_law_1706 rfl (lv_at hl 4 rfl) ?_
    refine lv_iload hx hb dL_law_1707 (lv_at hl 0 rfl) ?_
    refine lv_iconst (v := 2) hx hb dL_law_1709 (by decide) ?_
    refine lv_iadd hx hb dL_law_1710 ?_
    rw [show (nI (4 * t) + 2 : Int32) = nI (4 * t + 2) from nI_add (4 * t) 2]
    refine va_sld hx hb hX hbl (Nat.not_le_of_lt hbl) hS (vp_in_nI (by omega) (by omega)) dL_law_1711 ?_
    rw [nI_clamp (n := 4 * t + 2) (by omega), hx2]
    refine lv_if_eq (tgt := 1719) hx hb dL_law_1712 (by decide) (fun _ => ?_) (fun c_ => absurd hz c_)
    refine lv_iconst (v := 0) hx hb dL_law_1719 (by decide) ?_
    refine lv_aload_n hx hb dL_law_1720 rfl (lv_at hl 1 rfl) ?_
    refine lw_x (vx_runSW (As := [.ref (q 0), .int x1, .int 0, .ref qo]) (rest := []) ⟨hx, hb, hml, hown, hts⟩ (kL_toRetract l hl0 G q qo C o _ x1 0 _ hw) (vx_cwSW 4 hts gL_law_L_toRetract rfl rfl rfl (by decide +kernel) ⟨Nat.le_of_ble_eq_true rfl, Nat.le_of_ble_eq_true rfl⟩) (xS (lw_PX hP) (lw_DX hD) hS hK lw_hA hE) rfl rfl hl.1 rfl (lv_room (Nat.le_of_ble_eq_true rfl)) dL_law_1721 ⟨by show cells + 1 ≤ 601024; omega, by show slots + 6 ≤ 7293034; omega⟩) hP hD hS (fun H locs hP hD hS => ?_)
    have hP : va_P G.1 vwCl (LW G qm q qo M C' o') H := hP
    have hD : va_D (LA s) (LW G qm q qo M C' o') := hD
    refine lv_istore (lv' := [(5, .int k), (4, .int (nI (4 * t))), (3, .ref qo), (2, .ref (qm 0)), (1, .ref (q 0)), (0, .ref b)]) hx hb dL_law_1724 hl (by decide) rfl (fun ls hl => ?_)
    refine lv_aload_n hx hb dL_law_1726 rfl (lv_at hl 3 rfl) ?_
    refine lv_aload_n hx hb dL_law_1727 rfl (lv_at hl 5 rfl) ?_
    refine lv_iload hx hb dL_law_1728 (lv_at hl 1 rfl) ?_
    refine lv_iconst (v := 1) hx hb dL_law_1730 (by decide) ?_
    refine lv_iadd hx hb dL_law_1731 ?_
    rw [show (nI (4 * t) + 1 : Int32) = nI (4 * t + 1) from nI_add (4 * t) 1]
    refine va_sld hx hb hX hbl (Nat.not_le_of_lt hbl) hS (vp_in_nI (by omega) (by omega)) dL_law_1732 ?_
    rw [nI_clamp (n := 4 * t + 1) (by omega), hx1]
    refine lv_aload_n hx hb dL_law_1733 rfl (lv_at hl 5 rfl) ?_
    refine lv_iload hx hb dL_law_1734 (lv_at hl 1 rfl) ?_
    refine lv_iconst (v := 2) hx hb dL_law_1736 (by decide) ?_
    refine lv_iadd hx hb dL_law_1737 ?_
    rw [show (nI (4 * t) + 2 : Int32) = nI (4 * t + 2) from nI_add (4 * t) 2]
    refine va_sld hx hb hX hbl (Nat.not_le_of_lt hbl) hS (vp_in_nI (by omega) (by omega)) dL_law_1738 ?_
    rw [nI_clamp (n := 4 * t + 2) (by omega), hx2]
    refine lv_if_eq (tgt := 1746) hx hb dL_law_1739 (by decide) (fun _ => ?_) (fun c_ => absurd hz c_)
    refine lv_iconst (v := 0) hx hb dL_law_1746 (by decide) ?_
    refine lm_i (va_runV (As := [.int x1, .int 0]) (rest := []) ⟨hx, hb, hml, hown, hts⟩ (kX7_toRetract l G qm M _ x1 0 _ hM) (cwV 2 hts gL_law_X7_toRetract rfl rfl rfl (by decide +kernel) ⟨Nat.le_of_ble_eq_true rfl, Nat.le_of_ble_eq_true rfl⟩) (wrV (lw_PM hP) (lw_DM hD) hK 8 0 rfl rfl) rfl rfl hl.1 rfl (lv_room (Nat.le_of_ble_eq_true rfl)) dL_law_1747 ⟨by show cells + 1 + 0 ≤ 601024; omega, by show slots + 6 + 0 ≤ 7293034; omega⟩) hP hD hS (fun H locs hP hD hS => ?_)
    have hP : va_P G.1 vwCl (LW G qm q qo M' C' o') H := hP
    have hD : va_D (LA s) (LW G qm q qo M' C' o') := hD
    refine lv_istore (lv' := [(6, .int bb), (5, .int k), (4, .int (nI (4 * t))), (3, .ref qo), (2, .ref (qm 0)), (1, .ref (q 0)), (0, .ref b)]) hx hb dL_law_1750 hl (by decide) rfl (fun ls hl => ?_)
    refine lv_aload_n hx hb dL_law_1752 rfl (lv_at hl 4 rfl) ?_
    refine ro_i (va_runV (As := []) (rest := []) ⟨hx, hb, hml, hown, hts⟩ (kX7_thrown l G qm M' _ rfl) (cwV 0 hts gL_law_X7_thrown rfl rfl rfl (by decide +kernel) ⟨Nat.le_of_ble_eq_true rfl, Nat.le_of_ble_eq_true rfl⟩) (roV (lw_PM hP) hK 8 0 rfl rfl) rfl rfl hl.1 rfl (lv_room (Nat.le_of_ble_eq_true rfl)) dL_law_1753 ⟨by show cells + 1 + 0 + 0 ≤ 601024; omega, by show slots + 6 + 0 + 0 ≤ 7293034; omega⟩) ?_
    rw [h7]
    refine lv_iload hx hb dL_law_1756 (lv_at hl 1 rfl) ?_
    refine lv_icmp_eq (tgt := 1763) hx hb dL_law_1758 (by decide) (fun _ => ?_) (fun c_ => absurd rfl c_)
    refine lv_iload hx hb dL_law_1763 (lv_at hl 1 rfl) ?_
    refine lv_if_ne (tgt := 1780) hx hb dL_law_1765 (by decide) (fun _ => ?_) (fun z => ?_)
    · skip
      refine lv_goto (tgt := 2033) hx hb dL_law_1780 (by decide) ?_
      exact W.widen (k := cells + 60) (n := slots + 4000) (by omega) (by omega) (hN _ _ _ _ _ _ hI2 hP hD hS (lv_sub hl [2, 3, 4, 5, 6] rfl))
    · skip
      refine lv_aload_n hx hb dL_law_1768 rfl (lv_at hl 3 rfl) ?_
      refine lv_iconst (v := 0) hx hb dL_law_1769 (by decide) ?_
      refine va_lald (D := G.1) hx hb hK.1 hP 37 3 rfl rfl (by unfold vp_in; decide) dL_law_1770 ?_
      rw [show (0 : Int32).toNatClampNeg = 0 from rfl]
      refine lv_iload hx hb dL_law_1771 (lv_at hl 0 rfl) ?_
      refine lv_i2l (v := Int32.toInt64 bb) hx hb dL_law_1773 rfl ?_
      refine W.lcmp hx hb dL_law_1774 ?_
      rw [ho z, lcmp0]
      refine lv_if_eq (tgt := 1780) hx hb dL_law_1775 (by decide) (fun _ => ?_) (fun c_ => absurd rfl c_)
      refine lv_goto (tgt := 2033) hx hb dL_law_1780 (by decide) ?_
      exact W.widen (k := cells + 60) (n := slots + 4000) (by omega) (by omega) (hN _ _ _ _ _ _ hI2 hP hD hS (lv_sub hl [2, 3, 4, 5, 6] rfl))
  · skip
    obtain ⟨k, bb, M', C', o', hw, hM, hI2, h7, ho⟩ := agR (cd := cdL_toRetract) ((aFewest hI x1 true).2) (by intro k; unfold cdL_toRetract; (repeat' split) <;> decide) Int32.toInt64 o
    refine lv_aload_n hx hb dL_law_1699 rfl (lv_at hl 3 rfl) ?_
    refine lv_aload_n hx hb dL_law_1700 rfl (lv_at hl 4 rfl) ?_
    refine lv_iload hx hb dL_law_1701 (lv_at hl 0 rfl) ?_
    refine lv_iconst (v := 1) hx hb dL_law_1703 (by decide) ?_
    refine lv_iadd hx hb dL_law_1704 ?_
    rw [show (nI (4 * t) + 1 : Int32) = nI (4 * t + 1) from nI_add (4 * t) 1]
    refine va_sld hx hb hX hbl (Nat.not_le_of_lt hbl) hS (vp_in_nI (by omega) (by omega)) dL_law_1705 ?_
    rw [nI_clamp (n := 4 * t + 1) (by omega), hx1]
    refine lv_aload_n hx hb dL_law_1706 rfl (lv_at hl 4 rfl) ?_
    refine lv_iload hx hb dL_law_1707 (lv_at hl 0 rfl) ?_
    refine lv_iconst (v := 2) hx hb dL_law_1709 (by decide) ?_
    refine lv_iadd hx hb dL_law_1710 ?_
    rw [show (nI (4 * t) + 2 : Int32) = nI (4 * t + 2) from nI_add (4 * t) 2]
    refine va_sld hx hb hX hbl (Nat.not_le_of_lt hbl) hS (vp_in_nI (by omega) (by omega)) dL_law_1711 ?_
    rw [nI_clamp (n := 4 * t + 2) (by omega), hx2]
    refine lv_if_eq (tgt := 1719) hx hb dL_law_1712 (by decide) (fun c_ => absurd c_ hz) (fun _ => ?_)
    refine lv_iconst (v := 1) hx hb dL_law_1715 (by decide) ?_
    refine lv_goto (tgt := 1720) hx hb dL_law_1716 (by decide) ?_
    refine lv_aload_n hx hb dL_law_1720 rfl (lv_at hl 1 rfl) ?_
    refine lw_x (vx_runSW (As := [.ref (q 0), .int x1, .int 1, .ref qo]) (rest := []) ⟨hx, hb, hml, hown, hts⟩ (kL_toRetract l hl0 G q qo C o _ x1 1 _ hw) (vx_cwSW 4 hts gL_law_L_toRetract rfl rfl rfl (by decide +kernel) ⟨Nat.le_of_ble_eq_true rfl, Nat.le_of_ble_eq_true rfl⟩) (xS (lw_PX hP) (lw_DX hD) hS hK lw_hA hE) rfl rfl hl.1 rfl (lv_room (Nat.le_of_ble_eq_true rfl)) dL_law_1721 ⟨by show cells + 1 ≤ 601024; omega, by show slots + 6 ≤ 7293034; omega⟩) hP hD hS (fun H locs hP hD hS => ?_)
    have hP : va_P G.1 vwCl (LW G qm q qo M C' o') H := hP
    have hD : va_D (LA s) (LW G qm q qo M C' o') := hD
    refine lv_istore (lv' := [(5, .int k), (4, .int (nI (4 * t))), (3, .ref qo), (2, .ref (qm 0)), (1, .ref (q 0)), (0, .ref b)]) hx hb dL_law_1724 hl (by decide) rfl (fun ls hl => ?_)
    refine lv_aload_n hx hb dL_law_1726 rfl (lv_at hl 3 rfl) ?_
    refine lv_aload_n hx hb dL_law_1727 rfl (lv_at hl 5 rfl) ?_
    refine lv_iload hx hb dL_law_1728 (lv_at hl 1 rfl) ?_
    refine lv_iconst (v := 1) hx hb dL_law_1730 (by decide) ?_
    refine lv_iadd hx hb dL_law_1731 ?_
    rw [show (nI (4 * t) + 1 : Int32) = nI (4 * t + 1) from nI_add (4 * t) 1]
    refine va_sld hx hb hX hbl (Nat.not_le_of_lt hbl) hS (vp_in_nI (by omega) (by omega)) dL_law_1732 ?_
    rw [nI_clamp (n := 4 * t + 1) (by omega), hx1]
    refine lv_aload_n hx hb dL_law_1733 rfl (lv_at hl 5 rfl) ?_
    refine lv_iload hx hb dL_law_1734 (lv_at hl 1 rfl) ?_
    refine lv_iconst (v := 2) hx hb dL_law_1736 (by decide) ?_
    refine lv_iadd hx hb dL_law_1737 ?_
    rw [show (nI (4 * t) + 2 : Int32) = nI (4 * t + 2) from nI_add (4 * t) 2]
    refine va_sld hx hb hX hbl (Nat.not_le_of_lt hbl) hS (vp_in_nI (by omega) (by omega)) dL_law_1738 ?_
    rw [nI_clamp (n := 4 * t + 2) (by omega), hx2]
    refine lv_if_eq (tgt := 1746) hx hb dL_law_1739 (by decide) (fun c_ => absurd c_ hz) (fun _ => ?_)
    refine lv_iconst (v := 1) hx hb dL_law_1742 (by decide) ?_
    refine lv_goto (tgt := 1747) hx hb dL_law_1743 (by decide) ?_
    refine lm_i (va_runV (As := [.int x1, .int 1]) (rest := []) ⟨hx, hb, hml, hown, hts⟩ (kX7_toRetract l G qm M _ x1 1 _ hM) (cwV 2 hts gL_law_X7_toRetract rfl rfl rfl (by decide +kernel) ⟨Nat.le_of_ble_eq_true rfl, Nat.le_of_ble_eq_true rfl⟩) (wrV (lw_PM hP) (lw_DM hD) hK 8 0 rfl rfl) rfl rfl hl.1 rfl (lv_room (Nat.le_of_ble_eq_true rfl)) dL_law_1747 ⟨by show cells + 1 + 0 ≤ 601024; omega, by show slots + 6 + 0 ≤ 7293034; omega⟩) hP hD hS (fun H locs hP hD hS => ?_)
    have hP : va_P G.1 vwCl (LW G qm q qo M' C' o') H := hP
    have hD : va_D (LA s) (LW G qm q qo M' C' o') := hD
    refine lv_istore (lv' := [(6, .int bb), (5, .int k), (4, .int (nI (4 * t))), (3, .ref qo), (2, .ref (qm 0)), (1, .ref (q 0)), (0, .ref b)]) hx hb dL_law_1750 hl (by decide) rfl (fun ls hl => ?_)
    refine lv_aload_n hx hb dL_law_1752 rfl (lv_at hl 4 rfl) ?_
    refine ro_i (va_runV (As := []) (rest := []) ⟨hx, hb, hml, hown, hts⟩ (kX7_thrown l G qm M' _ rfl) (cwV 0 hts gL_law_X7_thrown rfl rfl rfl (by decide +kernel) ⟨Nat.le_of_ble_eq_true rfl, Nat.le_of_ble_eq_true rfl⟩) (roV (lw_PM hP) hK 8 0 rfl rfl) rfl rfl hl.1 rfl (lv_room (Nat.le_of_ble_eq_true rfl)) dL_law_1753 ⟨by show cells + 1 + 0 + 0 ≤ 601024; omega, by show slots + 6 + 0 + 0 ≤ 7293034; omega⟩) ?_
    rw [h7]
    refine lv_iload hx hb dL_law_1756 (lv_at hl 1 rfl) ?_
    refine lv_icmp_eq (tgt := 1763) hx hb dL_law_1758 (by decide) (fun _ => ?_) (fun c_ => absurd rfl c_)
    refine lv_iload hx hb dL_law_1763 (lv_at hl 1 rfl) ?_
    refine lv_if_ne (tgt := 1780) hx hb dL_law_1765 (by decide) (fun _ => ?_) (fun z => ?_)
    · skip
      refine lv_goto (tgt := 2033) hx hb dL_law_1780 (by decide) ?_
      exact W.widen (k := cells + 60) (n := slots + 4000) (by omega) (by omega) (hN _ _ _ _ _ _ hI2 hP hD hS (lv_sub hl [2, 3, 4, 5, 6] rfl))
    · skip
      refine lv_aload_n hx hb dL_law_1768 rfl (lv_at hl 3 rfl) ?_
      refine lv_iconst (v := 0) hx hb dL_law_1769 (by decide) ?_
      refine va_lald (D := G.1) hx hb hK.1 hP 37 3 rfl rfl (by unfold vp_in; decide) dL_law_1770 ?_
      rw [show (0 : Int32).toNatClampNeg = 0 from rfl]
      refine lv_iload hx hb dL_law_1771 (lv_at hl 0 rfl) ?_
      refine lv_i2l (v := Int32.toInt64 bb) hx hb dL_law_1773 rfl ?_
      refine W.lcmp hx hb dL_law_1774 ?_
      rw [ho z, lcmp0]
      refine lv_if_eq (tgt := 1780) hx hb dL_law_1775 (by decide) (fun _ => ?_) (fun c_ => absurd rfl c_)
      refine lv_goto (tgt := 2033) hx hb dL_law_1780 (by decide) ?_
      exact W.widen (k := cells + 60) (n := slots + 4000) (by omega) (by omega) (hN _ _ _ _ _ _ hI2 hP hD hS (lv_sub hl [2, 3, 4, 5, 6] rfl))

set_option maxHeartbeats 4000000 in
set_option maxRecDepth 100000 in
theorem law_c30 {p : Program} {l : Launch} {e : Env} {s : State} {m : MethodId} {below : List Frame} {meth : Method} {c : Code} {b L : Nat} {xs : Nat → Int32} {G : GT} {qm q : Nat → Nat} {qo t cells slots : Nat} {Q : State → Prop} {C M : St} {o : Nat → Int64} {H : Heap} {locs : List Loc} {ls : Array Slot} (hL : LE p l s m meth c b L xs G) (ht : 4 * t + 3 < L) (hc : cells + 60 ≤ 601024 ∧ slots + 4000 ≤ 7293034) (hN : LN p l e s m below meth c b G qm q qo t cells slots Q) (hI : Inv C M) (hP : va_P G.1 vwCl (LW G qm q qo M C o) H) (hD : va_D (LA s) (LW G qm q qo M C o)) (hS : va_S (LA s) s.heap H locs) (hl : lv_has ls 9 (lwL b (qm 0) (q 0) qo t)) : W p l e room_1 s m #[.ref b] below meth c H locs cells slots Q (F0 m 1783 ls []) := by
  obtain ⟨⟨hx, hb, hr, hts, hown, hml, hlocks⟩, hl0, hK, hE, hZ, hX, hbl, hL2⟩ := hL
  obtain ⟨D, i0, o0, hI⟩ := hI
  obtain ⟨x1, hx1⟩ : ∃ x, xs (4 * t + 1) = x := ⟨_, rfl⟩
  obtain ⟨x2, hx2⟩ : ∃ x, xs (4 * t + 2) = x := ⟨_, rfl⟩
  by_cases hz : x2 = 0
  · skip
    obtain ⟨k, bb, M', C', o', hw, hM, hI2, h7, ho⟩ := agW (cd := cdL_force) (aForce hI x1 false) (by intro k; unfold cdL_force; (repeat' split) <;> decide) Int32.toInt64 o
    refine lv_aload_n hx hb dL_law_1783 rfl (lv_at hl 3 rfl) ?_
    refine lv_aload_n hx hb dL_law_1784 rfl (lv_at hl 4 rfl) ?_
    refine lv_iload hx hb dL_law_1785 (lv_at hl 0 rfl) ?_
    refine lv_iconst (v := 1) hx hb dL_law_1787 (by decide) ?_
    refine lv_iadd hx hb dL_law_1788 ?_
    rw [show (nI (4 * t) + 1 : Int32) = nI (4 * t + 1) from nI_add (4 * t) 1]
    refine va_sld hx hb hX hbl (Nat.not_le_of_lt hbl) hS (vp_in_nI (by omega) (by omega)) dL_law_1789 ?_
    rw [nI_clamp (n := 4 * t + 1) (by omega), hx1]
    refine lv_aload_n hx hb dL_law_1790 rfl (lv_at hl 4 rfl) ?_
    refine lv_iload hx hb dL_law_1791 (lv_at hl 0 rfl) ?_
    refine lv_iconst (v := 2) hx hb dL_law_1793 (by decide) ?_
    refine lv_iadd hx hb dL_law_1794 ?_
    rw [show (nI (4 * t) + 2 : Int32) = nI (4 * t + 2) from nI_add (4 * t) 2]
    refine va_sld hx hb hX hbl (Nat.not_le_of_lt hbl) hS (vp_in_nI (by omega) (by omega)) dL_law_1795 ?_
    rw [nI_clamp (n := 4 * t + 2) (by omega), hx2]
    refine lv_if_eq (tgt := 1803) hx hb dL_law_1796 (by decide) (fun _ => ?_) (fun c_ => absurd hz c_)
    refine lv_iconst (v := 0) hx hb dL_law_1803 (by decide) ?_
    refine lv_aload_n hx hb dL_law_1804 rfl (lv_at hl 1 rfl) ?_
    refine lw_x (vx_runSW (As := [.ref (q 0), .int x1, .int 0, .ref qo]) (rest := []) ⟨hx, hb, hml, hown, hts⟩ (kL_force l hl0 G q qo C o _ x1 0 _ hw) (vx_cwSW 4 hts gL_law_L_force rfl rfl rfl (by decide +kernel) ⟨Nat.le_of_ble_eq_true rfl, Nat.le_of_ble_eq_true rfl⟩) (xS (lw_PX hP) (lw_DX hD) hS hK lw_hA hE) rfl rfl hl.1 rfl (lv_room (Nat.le_of_ble_eq_true rfl)) dL_law_1805 ⟨by show cells + 1 ≤ 601024; omega, by show slots + 6 ≤ 7293034; omega⟩) hP hD hS (fun H locs hP hD hS => ?_)
    have hP : va_P G.1 vwCl (LW G qm q qo M C' o') H := hP
    have hD : va_D (LA s) (LW G qm q qo M C' o') := hD
    refine lv_istore (lv' := [(5, .int k), (4, .int (nI (4 * t))), (3, .ref qo), (2, .ref (qm 0)), (1, .ref (q 0)), (0, .ref b)]) hx hb dL_law_1808 hl (by decide) rfl (fun ls hl => ?_)
    refine lv_aload_n hx hb dL_law_1810 rfl (lv_at hl 3 rfl) ?_
    refine lv_aload_n hx hb dL_law_1811 rfl (lv_at hl 5 rfl) ?_
    refine lv_iload hx hb dL_law_1812 (lv_at hl 1 rfl) ?_
    refine lv_iconst (v := 1) hx hb dL_law_1814 (by decide) ?_
    refine lv_iadd hx hb dL_law_1815 ?_
    rw [show (nI (4 * t) + 1 : Int32) = nI (4 * t + 1) from nI_add (4 * t) 1]
    refine va_sld hx hb hX hbl (Nat.not_le_of_lt hbl) hS (vp_in_nI (by omega) (by omega)) dL_law_1816 ?_
    rw [nI_clamp (n := 4 * t + 1) (by omega), hx1]
    refine lv_aload_n hx hb dL_law_1817 rfl (lv_at hl 5 rfl) ?_
    refine lv_iload hx hb dL_law_1818 (lv_at hl 1 rfl) ?_
    refine lv_iconst (v := 2) hx hb dL_law_1820 (by decide) ?_
    refine lv_iadd hx hb dL_law_1821 ?_
    rw [show (nI (4 * t) + 2 : Int32) = nI (4 * t + 2) from nI_add (4 * t) 2]
    refine va_sld hx hb hX hbl (Nat.not_le_of_lt hbl) hS (vp_in_nI (by omega) (by omega)) dL_law_1822 ?_
    rw [nI_clamp (n := 4 * t + 2) (by omega), hx2]
    refine lv_if_eq (tgt := 1830) hx hb dL_law_1823 (by decide) (fun _ => ?_) (fun c_ => absurd hz c_)
    refine lv_iconst (v := 0) hx hb dL_law_1830 (by decide) ?_
    refine lm_i (va_runV (As := [.int x1, .int 0]) (rest := []) ⟨hx, hb, hml, hown, hts⟩ (kX7_force l G qm M _ x1 0 _ hM) (cwV 2 hts gL_law_X7_force rfl rfl rfl (by decide +kernel) ⟨Nat.le_of_ble_eq_true rfl, Nat.le_of_ble_eq_true rfl⟩) (wrV (lw_PM hP) (lw_DM hD) hK 8 0 rfl rfl) rfl rfl hl.1 rfl (lv_room (Nat.le_of_ble_eq_true rfl)) dL_law_1831 ⟨by show cells + 1 + 0 ≤ 601024; omega, by show slots + 6 + 0 ≤ 7293034; omega⟩) hP hD hS (fun H locs hP hD hS => ?_)
    have hP : va_P G.1 vwCl (LW G qm q qo M' C' o') H := hP
    have hD : va_D (LA s) (LW G qm q qo M' C' o') := hD
    refine lv_istore (lv' := [(6, .int bb), (5, .int k), (4, .int (nI (4 * t))), (3, .ref qo), (2, .ref (qm 0)), (1, .ref (q 0)), (0, .ref b)]) hx hb dL_law_1834 hl (by decide) rfl (fun ls hl => ?_)
    refine lv_aload_n hx hb dL_law_1836 rfl (lv_at hl 4 rfl) ?_
    refine ro_i (va_runV (As := []) (rest := []) ⟨hx, hb, hml, hown, hts⟩ (kX7_thrown l G qm M' _ rfl) (cwV 0 hts gL_law_X7_thrown rfl rfl rfl (by decide +kernel) ⟨Nat.le_of_ble_eq_true rfl, Nat.le_of_ble_eq_true rfl⟩) (roV (lw_PM hP) hK 8 0 rfl rfl) rfl rfl hl.1 rfl (lv_room (Nat.le_of_ble_eq_true rfl)) dL_law_1837 ⟨by show cells + 1 + 0 + 0 ≤ 601024; omega, by show slots + 6 + 0 + 0 ≤ 7293034; omega⟩) ?_
    rw [h7]
    refine lv_iload hx hb dL_law_1840 (lv_at hl 1 rfl) ?_
    refine lv_icmp_eq (tgt := 1847) hx hb dL_law_1842 (by decide) (fun _ => ?_) (fun c_ => absurd rfl c_)
    refine lv_iload hx hb dL_law_1847 (lv_at hl 1 rfl) ?_
    refine lv_if_ne (tgt := 1864) hx hb dL_law_1849 (by decide) (fun _ => ?_) (fun z => ?_)
    · skip
      refine lv_goto (tgt := 2033) hx hb dL_law_1864 (by decide) ?_
      exact W.widen (k := cells + 60) (n := slots + 4000) (by omega) (by omega) (hN _ _ _ _ _ _ hI2 hP hD hS (lv_sub hl [2, 3, 4, 5, 6] rfl))
    · skip
      refine lv_aload_n hx hb dL_law_1852 rfl (lv_at hl 3 rfl) ?_
      refine lv_iconst (v := 0) hx hb dL_law_1853 (by decide) ?_
      refine va_lald (D := G.1) hx hb hK.1 hP 37 3 rfl rfl (by unfold vp_in; decide) dL_law_1854 ?_
      rw [show (0 : Int32).toNatClampNeg = 0 from rfl]
      refine lv_iload hx hb dL_law_1855 (lv_at hl 0 rfl) ?_
      refine lv_i2l (v := Int32.toInt64 bb) hx hb dL_law_1857 rfl ?_
      refine W.lcmp hx hb dL_law_1858 ?_
      rw [ho z, lcmp0]
      refine lv_if_eq (tgt := 1864) hx hb dL_law_1859 (by decide) (fun _ => ?_) (fun c_ => absurd rfl c_)
      refine lv_goto (tgt := 2033) hx hb dL_law_1864 (by decide) ?_
      exact W.widen (k := cells + 60) (n := slots + 4000) (by omega) (by omega) (hN _ _ _ _ _ _ hI2 hP hD hS (lv_sub hl [2, 3, 4, 5, 6] rfl))
  · skip
    obtain ⟨k, bb, M', C', o', hw, hM, hI2, h7, ho⟩ := agW (cd := cdL_force) (aForce hI x1 true) (by intro k; unfold cdL_force; (repeat' split) <;> decide) Int32.toInt64 o
    refine lv_aload_n hx hb dL_law_1783 rfl (lv_at hl 3 rfl) ?_
    refine lv_aload_n hx hb dL_law_1784 rfl (lv_at hl 4 rfl) ?_
    refine lv_iload hx hb dL_law_1785 (lv_at hl 0 rfl) ?_
    refine lv_iconst (v := 1) hx hb dL_law_1787 (by decide) ?_
    refine lv_iadd hx hb dL_law_1788 ?_
    rw [show (nI (4 * t) + 1 : Int32) = nI (4 * t + 1) from nI_add (4 * t) 1]
    refine va_sld hx hb hX hbl (Nat.not_le_of_lt hbl) hS (vp_in_nI (by omega) (by omega)) dL_law_1789 ?_
    rw [nI_clamp (n := 4 * t + 1) (by omega), hx1]
    refine lv_aload_n hx hb dL_law_1790 rfl (lv_at hl 4 rfl) ?_
    refine lv_iload hx hb dL_law_1791 (lv_at hl 0 rfl) ?_
    refine lv_iconst (v := 2) hx hb dL_law_1793 (by decide) ?_
    refine lv_iadd hx hb dL_law_1794 ?_
    rw [show (nI (4 * t) + 2 : Int32) = nI (4 * t + 2) from nI_add (4 * t) 2]
    refine va_sld hx hb hX hbl (Nat.not_le_of_lt hbl) hS (vp_in_nI (by omega) (by omega)) dL_law_1795 ?_
    rw [nI_clamp (n := 4 * t + 2) (by omega), hx2]
    refine lv_if_eq (tgt := 1803) hx hb dL_law_1796 (by decide) (fun c_ => absurd c_ hz) (fun _ => ?_)
    refine lv_iconst (v := 1) hx hb dL_law_1799 (by decide) ?_
    refine lv_goto (tgt := 1804) hx hb dL_law_1800 (by decide) ?_
    refine lv_aload_n hx hb dL_law_1804 rfl (lv_at hl 1 rfl) ?_
    refine lw_x (vx_runSW (As := [.ref (q 0), .int x1, .int 1, .ref qo]) (rest := []) ⟨hx, hb, hml, hown, hts⟩ (kL_force l hl0 G q qo C o _ x1 1 _ hw) (vx_cwSW 4 hts gL_law_L_force rfl rfl rfl (by decide +kernel) ⟨Nat.le_of_ble_eq_true rfl, Nat.le_of_ble_eq_true rfl⟩) (xS (lw_PX hP) (lw_DX hD) hS hK lw_hA hE) rfl rfl hl.1 rfl (lv_room (Nat.le_of_ble_eq_true rfl)) dL_law_1805 ⟨by show cells + 1 ≤ 601024; omega, by show slots + 6 ≤ 7293034; omega⟩) hP hD hS (fun H locs hP hD hS => ?_)
    have hP : va_P G.1 vwCl (LW G qm q qo M C' o') H := hP
    have hD : va_D (LA s) (LW G qm q qo M C' o') := hD
    refine lv_istore (lv' := [(5, .int k), (4, .int (nI (4 * t))), (3, .ref qo), (2, .ref (qm 0)), (1, .ref (q 0)), (0, .ref b)]) hx hb dL_law_1808 hl (by decide) rfl (fun ls hl => ?_)
    refine lv_aload_n hx hb dL_law_1810 rfl (lv_at hl 3 rfl) ?_
    refine lv_aload_n hx hb dL_law_1811 rfl (lv_at hl 5 rfl) ?_
    refine lv_iload hx hb dL_law_1812 (lv_at hl 1 rfl) ?_
    refine lv_iconst (v := 1) hx hb dL_law_1814 (by decide) ?_
    refine lv_iadd hx hb dL_law_1815 ?_
    rw [show (nI (4 * t) + 1 : Int32) = nI (4 * t + 1) from nI_add (4 * t) 1]
    refine va_sld hx hb hX hbl (Nat.not_le_of_lt hbl) hS (vp_in_nI (by omega) (by omega)) dL_law_1816 ?_
    rw [nI_clamp (n := 4 * t + 1) (by omega), hx1]
    refine lv_aload_n hx hb dL_law_1817 rfl (lv_at hl 5 rfl) ?_
    refine lv_iload hx hb dL_law_1818 (lv_at hl 1 rfl) ?_
    refine lv_iconst (v := 2) hx hb dL_law_1820 (by decide) ?_
    refine lv_iadd hx hb dL_law_1821 ?_
    rw [show (nI (4 * t) + 2 : Int32) = nI (4 * t + 2) from nI_add (4 * t) 2]
    refine va_sld hx hb hX hbl (Nat.not_le_of_lt hbl) hS (vp_in_nI (by omega) (by omega)) dL_law_1822 ?_
    rw [nI_clamp (n := 4 * t + 2) (by omega), hx2]
    refine lv_if_eq (tgt := 1830) hx hb dL_law_1823 (by decide) (fun c_ => absurd c_ hz) (fun _ => ?_)
    refine lv_iconst (v := 1) hx hb dL_law_1826 (by decide) ?_
    refine lv_goto (tgt := 1831) hx hb dL_law_1827 (by decide) ?_
    refine lm_i (va_runV (As := [.int x1, .int 1]) (rest := []) ⟨hx, hb, hml, hown, hts⟩ (kX7_force l G qm M _ x1 1 _ hM) (cwV 2 hts gL_law_X7_force rfl rfl rfl (by decide +kernel) ⟨Nat.le_of_ble_eq_true rfl, Nat.le_of_ble_eq_true rfl⟩) (wrV (lw_PM hP) (lw_DM hD) hK 8 0 rfl rfl) rfl rfl hl.1 rfl (lv_room (Nat.le_of_ble_eq_true rfl)) dL_law_1831 ⟨by show cells + 1 + 0 ≤ 601024; omega, by show slots + 6 + 0 ≤ 7293034; omega⟩) hP hD hS (fun H locs hP hD hS => ?_)
    have hP : va_P G.1 vwCl (LW G qm q qo M' C' o') H := hP
    have hD : va_D (LA s) (LW G qm q qo M' C' o') := hD
    refine lv_istore (lv' := [(6, .int bb), (5, .int k), (4, .int (nI (4 * t))), (3, .ref qo), (2, .ref (qm 0)), (1, .ref (q 0)), (0, .ref b)]) hx hb dL_law_1834 hl (by decide) rfl (fun ls hl => ?_)
    refine lv_aload_n hx hb dL_law_1836 rfl (lv_at hl 4 rfl) ?_
    refine ro_i (va_runV (As := []) (rest := []) ⟨hx, hb, hml, hown, hts⟩ (kX7_thrown l G qm M' _ rfl) (cwV 0 hts gL_law_X7_thrown rfl rfl rfl (by decide +kernel) ⟨Nat.le_of_ble_eq_true rfl, Nat.le_of_ble_eq_true rfl⟩) (roV (lw_PM hP) hK 8 0 rfl rfl) rfl rfl hl.1 rfl (lv_room (Nat.le_of_ble_eq_true rfl)) dL_law_1837 ⟨by show cells + 1 + 0 + 0 ≤ 601024; omega, by show slots + 6 + 0 + 0 ≤ 7293034; omega⟩) ?_
    rw [h7]
    refine lv_iload hx hb dL_law_1840 (lv_at hl 1 rfl) ?_
    refine lv_icmp_eq (tgt := 1847) hx hb dL_law_1842 (by decide) (fun _ => ?_) (fun c_ => absurd rfl c_)
    refine lv_iload hx hb dL_law_1847 (lv_at hl 1 rfl) ?_
    refine lv_if_ne (tgt := 1864) hx hb dL_law_1849 (by decide) (fun _ => ?_) (fun z => ?_)
    · skip
      refine lv_goto (tgt := 2033) hx hb dL_law_1864 (by decide) ?_
      exact W.widen (k := cells + 60) (n := slots + 4000) (by omega) (by omega) (hN _ _ _ _ _ _ hI2 hP hD hS (lv_sub hl [2, 3, 4, 5, 6] rfl))
    · skip
      refine lv_aload_n hx hb dL_law_1852 rfl (lv_at hl 3 rfl) ?_
      refine lv_iconst (v := 0) hx hb dL_law_1853 (by decide) ?_
      refine va_lald (D := G.1) hx hb hK.1 hP 37 3 rfl rfl (by unfold vp_in; decide) dL_law_1854 ?_
      rw [show (0 : Int32).toNatClampNeg = 0 from rfl]
      refine lv_iload hx hb dL_law_1855 (lv_at hl 0 rfl) ?_
      refine lv_i2l (v := Int32.toInt64 bb) hx hb dL_law_1857 rfl ?_
      refine W.lcmp hx hb dL_law_1858 ?_
      rw [ho z, lcmp0]
      refine lv_if_eq (tgt := 1864) hx hb dL_law_1859 (by decide) (fun _ => ?_) (fun c_ => absurd rfl c_)
      refine lv_goto (tgt := 2033) hx hb dL_law_1864 (by decide) ?_
      exact W.widen (k := cells + 60) (n := slots + 4000) (by omega) (by omega) (hN _ _ _ _ _ _ hI2 hP hD hS (lv_sub hl [2, 3, 4, 5, 6] rfl))
