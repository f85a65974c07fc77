set_option maxHeartbeats 4000000 in
set_option maxRecDepth 100000 in
theorem law_c8 {p : Program} {l : Launch} {e : Env} {s : State} {m : MethodId} {below : List Frame} {meth : Method} {c : Code} {b L : Nat} {xs : Nat → Int32} {G : GT} {qm q : Nat → Nat} {qo t cells slots : Nat} {Q : State → Prop} {C M : St} {o : Nat → Int64} {H : Heap} {locs : List Loc} {ls : Array Slot} (hL : LE p l s m meth c b L xs G) (ht : 4 * t + 3 < L) (hc : cells + 60 ≤ 601024 ∧ slots + 4000 ≤ 7293034) (hN : LN p l e s m below meth c b G qm q qo t cells slots Q) (hI : Inv C M) (hP : va_P G.1 vwCl (LW G qm q qo M C o) H) (hD : va_D (LA s) (LW G qm q qo M C o)) (hS : va_S (LA s) s.heap H locs) (hl : lv_has ls 9 (lwL b (qm 0) (q 0) qo t)) : W p l e room_1 s m #[.ref b] below meth c H locs cells slots Q (F0 m 763 ls []) := by
  obtain ⟨⟨hx, hb, hr, hts, hown, hml, hlocks⟩, hl0, hK, hE, hZ, hX, hbl, hL2⟩ := hL
  obtain ⟨D, i0, o0, hI⟩ := hI
  obtain ⟨x1, hx1⟩ : ∃ x, xs (4 * t + 1) = x := ⟨_, rfl⟩
  obtain ⟨k, bb, M', C', o', hw, hM, hI2, h7, ho⟩ := agW (cd := cdL_refuse) ((aDecide hI x1).2) (by intro k; unfold cdL_refuse; (repeat' split) <;> decide) Int32.toInt64 o
  refine lv_aload_n hx hb dL_law_763 rfl (lv_at hl 3 rfl) ?_
  refine lv_aload_n hx hb dL_law_764 rfl (lv_at hl 4 rfl) ?_
  refine lv_iload hx hb dL_law_765 (lv_at hl 0 rfl) ?_
  refine lv_iconst (v := 1) hx hb dL_law_767 (by decide) ?_
  refine lv_iadd hx hb dL_law_768 ?_
  rw [show (nI (4 * t) + 1 : Int32) = nI (4 * t + 1) from nI_add (4 * t) 1]
  refine va_sld hx hb hX hbl (Nat.not_le_of_lt hbl) hS (vp_in_nI (by omega) (by omega)) dL_law_769 ?_
  rw [nI_clamp (n := 4 * t + 1) (by omega), hx1]
  refine lv_aload_n hx hb dL_law_770 rfl (lv_at hl 1 rfl) ?_
  refine lw_x (vx_runSW (As := [.ref (q 0), .int x1, .ref qo]) (rest := []) ⟨hx, hb, hml, hown, hts⟩ (kL_refuse l hl0 G q qo C o _ x1 _ hw) (vx_cwSW 3 hts gL_law_L_refuse rfl rfl rfl (by decide +kernel) ⟨Nat.le_of_ble_eq_true rfl, Nat.le_of_ble_eq_true rfl⟩) (xS (lw_PX hP) (lw_DX hD) hS hK lw_hA hE) rfl rfl hl.1 rfl (lv_room (Nat.le_of_ble_eq_true rfl)) dL_law_771 ⟨by show cells + 1 ≤ 601024; omega, by show slots + 6 ≤ 7293034; omega⟩) hP hD hS (fun H locs hP hD hS => ?_)
  have hP : va_P G.1 vwCl (LW G qm q qo M C' o') H := hP
  have hD : va_D (LA s) (LW G qm q qo M C' o') := hD
  refine lv_istore (lv' := [(5, .int k), (4, .int (nI (4 * t))), (3, .ref qo), (2, .ref (qm 0)), (1, .ref (q 0)), (0, .ref b)]) hx hb dL_law_774 hl (by decide) rfl (fun ls hl => ?_)
  refine lv_aload_n hx hb dL_law_776 rfl (lv_at hl 3 rfl) ?_
  refine lv_aload_n hx hb dL_law_777 rfl (lv_at hl 5 rfl) ?_
  refine lv_iload hx hb dL_law_778 (lv_at hl 1 rfl) ?_
  refine lv_iconst (v := 1) hx hb dL_law_780 (by decide) ?_
  refine lv_iadd hx hb dL_law_781 ?_
  rw [show (nI (4 * t) + 1 : Int32) = nI (4 * t + 1) from nI_add (4 * t) 1]
  refine va_sld hx hb hX hbl (Nat.not_le_of_lt hbl) hS (vp_in_nI (by omega) (by omega)) dL_law_782 ?_
  rw [nI_clamp (n := 4 * t + 1) (by omega), hx1]
  refine lm_i (va_runV (As := [.int x1]) (rest := []) ⟨hx, hb, hml, hown, hts⟩ (kX7_refuse l G qm M _ x1 _ hM) (cwV 1 hts gL_law_X7_refuse rfl rfl rfl (by decide +kernel) ⟨Nat.le_of_ble_eq_true rfl, Nat.le_of_ble_eq_true rfl⟩) (wrV (lw_PM hP) (lw_DM hD) hK 8 0 rfl rfl) rfl rfl hl.1 rfl (lv_room (Nat.le_of_ble_eq_true rfl)) dL_law_783 ⟨by show cells + 1 + 0 ≤ 601024; omega, by show slots + 6 + 0 ≤ 7293034; omega⟩) hP hD hS (fun H locs hP hD hS => ?_)
  have hP : va_P G.1 vwCl (LW G qm q qo M' C' o') H := hP
  have hD : va_D (LA s) (LW G qm q qo M' C' o') := hD
  refine lv_istore (lv' := [(6, .int bb), (5, .int k), (4, .int (nI (4 * t))), (3, .ref qo), (2, .ref (qm 0)), (1, .ref (q 0)), (0, .ref b)]) hx hb dL_law_786 hl (by decide) rfl (fun ls hl => ?_)
  refine lv_aload_n hx hb dL_law_788 rfl (lv_at hl 4 rfl) ?_
  refine ro_i (va_runV (As := []) (rest := []) ⟨hx, hb, hml, hown, hts⟩ (kX7_thrown l G qm M' _ rfl) (cwV 0 hts gL_law_X7_thrown rfl rfl rfl (by decide +kernel) ⟨Nat.le_of_ble_eq_true rfl, Nat.le_of_ble_eq_true rfl⟩) (roV (lw_PM hP) hK 8 0 rfl rfl) rfl rfl hl.1 rfl (lv_room (Nat.le_of_ble_eq_true rfl)) dL_law_789 ⟨by show cells + 1 + 0 + 0 ≤ 601024; omega, by show slots + 6 + 0 + 0 ≤ 7293034; omega⟩) ?_
  rw [h7]
  refine lv_iload hx hb dL_law_792 (lv_at hl 1 rfl) ?_
  refine lv_icmp_eq (tgt := 799) hx hb dL_law_794 (by decide) (fun _ => ?_) (fun c_ => absurd rfl c_)
  refine lv_iload hx hb dL_law_799 (lv_at hl 1 rfl) ?_
  refine lv_if_ne (tgt := 816) hx hb dL_law_801 (by decide) (fun _ => ?_) (fun z => ?_)
  · skip
    refine lv_goto (tgt := 2033) hx hb dL_law_816 (by decide) ?_
    exact W.widen (k := cells + 60) (n := slots + 4000) (by omega) (by omega) (hN _ _ _ _ _ _ hI2 hP hD hS (lv_sub hl [2, 3, 4, 5, 6] rfl))
  · skip
    refine lv_aload_n hx hb dL_law_804 rfl (lv_at hl 3 rfl) ?_
    refine lv_iconst (v := 0) hx hb dL_law_805 (by decide) ?_
    refine va_lald (D := G.1) hx hb hK.1 hP 37 3 rfl rfl (by unfold vp_in; decide) dL_law_806 ?_
    rw [show (0 : Int32).toNatClampNeg = 0 from rfl]
    refine lv_iload hx hb dL_law_807 (lv_at hl 0 rfl) ?_
    refine lv_i2l (v := Int32.toInt64 bb) hx hb dL_law_809 rfl ?_
    refine W.lcmp hx hb dL_law_810 ?_
    rw [ho z, lcmp0]
    refine lv_if_eq (tgt := 816) hx hb dL_law_811 (by decide) (fun _ => ?_) (fun c_ => absurd rfl c_)
    refine lv_goto (tgt := 2033) hx hb dL_law_816 (by decide) ?_
    exact W.widen (k := cells + 60) (n := slots + 4000) (by omega) (by omega) (hN _ _ _ _ _ _ hI2 hP hD hS (lv_sub hl [2, 3, 4, 5, 6] rfl))

set_option maxHeartbeats 4000000 in
set_option maxRecDepth 100000 in
theorem law_c9 {p : Program} {l : Launch} {e : Env} {s : State} {m : MethodId} {below : List Frame} {meth : Method} {c : Code} {b L : Nat} {xs : Nat → Int32} {G : GT} {qm q : Nat → Nat} {qo t cells slots : Nat} {Q : State → Prop} {C M : St} {o : Nat → Int64} {H : Heap} {locs : List Loc} {ls : Array Slot} (hL : LE p l s m meth c b L xs G) (ht : 4 * t + 3 < L) (hc : cells + 60 ≤ 601024 ∧ slots + 4000 ≤ 7293034) (hN : LN p l e s m below meth c b G qm q qo t cells slots Q) (hI : Inv C M) (hP : va_P G.1 vwCl (LW G qm q qo M C o) H) (hD : va_D (LA s) (LW G qm q qo M C o)) (hS : va_S (LA s) s.heap H locs) (hl : lv_has ls 9 (lwL b (qm 0) (q 0) qo t)) : W p l e room_1 s m #[.ref b] below meth c H locs cells slots Q (F0 m 819 ls []) := by
  obtain ⟨⟨hx, hb, hr, hts, hown, hml, hlocks⟩, hl0, hK, hE, hZ, hX, hbl, hL2⟩ := hL
  obtain ⟨D, i0, o0, hI⟩ := hI
  obtain ⟨x1, hx1⟩ : ∃ x, xs (4 * t + 1) = x := ⟨_, rfl⟩
  obtain ⟨k, bb, M', C', o', hw, hM, hI2, h7, ho⟩ := agW (cd := cdL_retract) (aRetract hI x1) (by intro k; unfold cdL_retract; (repeat' split) <;> decide) Int32.toInt64 o
  refine lv_aload_n hx hb dL_law_819 rfl (lv_at hl 3 rfl) ?_
  refine lv_aload_n hx hb dL_law_820 rfl (lv_at hl 4 rfl) ?_
  refine lv_iload hx hb dL_law_821 (lv_at hl 0 rfl) ?_
  refine lv_iconst (v := 1) hx hb dL_law_823 (by decide) ?_
  refine lv_iadd hx hb dL_law_824 ?_
  rw [show (nI (4 * t) + 1 : Int32) = nI (4 * t + 1) from nI_add (4 * t) 1]
  refine va_sld hx hb hX hbl (Nat.not_le_of_lt hbl) hS (vp_in_nI (by omega) (by omega)) dL_law_825 ?_
  rw [nI_clamp (n := 4 * t + 1) (by omega), hx1]
  refine lv_aload_n hx hb dL_law_826 rfl (lv_at hl 1 rfl) ?_
  refine lw_x (vx_runSW (As := [.ref (q 0), .int x1, .ref qo]) (rest := []) ⟨hx, hb, hml, hown, hts⟩ (kL_retract l hl0 G q qo C o _ x1 _ hw) (vx_cwSW 3 hts gL_law_L_retract rfl rfl rfl (by decide +kernel) ⟨Nat.le_of_ble_eq_true rfl, Nat.le_of_ble_eq_true rfl⟩) (xS (lw_PX hP) (lw_DX hD) hS hK lw_hA hE) rfl rfl hl.1 rfl (lv_room (Nat.le_of_ble_eq_true rfl)) dL_law_827 ⟨by show cells + 1 ≤ 601024; omega, by show slots + 6 ≤ 7293034; omega⟩) hP hD hS (fun H locs hP hD hS => ?_)
  have hP : va_P G.1 vwCl (LW G qm q qo M C' o') H := hP
  have hD : va_D (LA s) (LW G qm q qo M C' o') := hD
  refine lv_istore (lv' := [(5, .int k), (4, .int (nI (4 * t))), (3, .ref qo), (2, .ref (qm 0)), (1, .ref (q 0)), (0, .ref b)]) hx hb dL_law_830 hl (by decide) rfl (fun ls hl => ?_)
  refine lv_aload_n hx hb dL_law_832 rfl (lv_at hl 3 rfl) ?_
  refine lv_aload_n hx hb dL_law_833 rfl (lv_at hl 5 rfl) ?_
  refine lv_iload hx hb dL_law_834 (lv_at hl 1 rfl) ?_
  refine lv_iconst (v := 1) hx hb dL_law_836 (by decide) ?_
  refine lv_iadd hx hb dL_law_837 ?_
  rw [show (nI (4 * t) + 1 : Int32) = nI (4 * t + 1) from nI_add (4 * t) 1]
  refine va_sld hx hb hX hbl (Nat.not_le_of_lt hbl) hS (vp_in_nI (by omega) (by omega)) dL_law_838 ?_
  rw [nI_clamp (n := 4 * t + 1) (by omega), hx1]
  refine lm_i (va_runV (As := [.int x1]) (rest := []) ⟨hx, hb, hml, hown, hts⟩ (kX7_retract l G qm M _ x1 _ hM) (cwV 1 hts gL_law_X7_retract rfl rfl rfl (by decide +kernel) ⟨Nat.le_of_ble_eq_true rfl, Nat.le_of_ble_eq_true rfl⟩) (wrV (lw_PM hP) (lw_DM hD) hK 8 0 rfl rfl) rfl rfl hl.1 rfl (lv_room (Nat.le_of_ble_eq_true rfl)) dL_law_839 ⟨by show cells + 1 + 0 ≤ 601024; omega, by show slots + 6 + 0 ≤ 7293034; omega⟩) hP hD hS (fun H locs hP hD hS => ?_)
  have hP : va_P G.1 vwCl (LW G qm q qo M' C' o') H := hP
  have hD : va_D (LA s) (LW G qm q qo M' C' o') := hD
  refine lv_istore (lv' := [(6, .int bb), (5, .int k), (4, .int (nI (4 * t))), (3, .ref qo), (2, .ref (qm 0)), (1, .ref (q 0)), (0, .ref b)]) hx hb dL_law_842 hl (by decide) rfl (fun ls hl => ?_)
  refine lv_aload_n hx hb dL_law_844 rfl (lv_at hl 4 rfl) ?_
  refine ro_i (va_runV (As := []) (rest := []) ⟨hx, hb, hml, hown, hts⟩ (kX7_thrown l G qm M' _ rfl) (cwV 0 hts gL_law_X7_thrown rfl rfl rfl (by decide +kernel) ⟨Nat.le_of_ble_eq_true rfl, Nat.le_of_ble_eq_true rfl⟩) (roV (lw_PM hP) hK 8 0 rfl rfl) rfl rfl hl.1 rfl (lv_room (Nat.le_of_ble_eq_true rfl)) dL_law_845 ⟨by show cells + 1 + 0 + 0 ≤ 601024; omega, by show slots + 6 + 0 + 0 ≤ 7293034; omega⟩) ?_
  rw [h7]
  refine lv_iload hx hb dL_law_848 (lv_at hl 1 rfl) ?_
  refine lv_icmp_eq (tgt := 855) hx hb dL_law_850 (by decide) (fun _ => ?_) (fun c_ => absurd rfl c_)
  refine lv_iload hx hb dL_law_855 (lv_at hl 1 rfl) ?_
  refine lv_if_ne (tgt := 872) hx hb dL_law_857 (by decide) (fun _ => ?_) (fun z => ?_)
  · skip
    refine lv_goto (tgt := 2033) hx hb dL_law_872 (by decide) ?_
    exact W.widen (k := cells + 60) (n := slots + 4000) (by omega) (by omega) (hN _ _ _ _ _ _ hI2 hP hD hS (lv_sub hl [2, 3, 4, 5, 6] rfl))
  · skip
    refine lv_aload_n hx hb dL_law_860 rfl (lv_at hl 3 rfl) ?_
    refine lv_iconst (v := 0) hx hb dL_law_861 (by decide) ?_
    refine va_lald (D := G.1) hx hb hK.1 hP 37 3 rfl rfl (by unfold vp_in; decide) dL_law_862 ?_
    rw [show (0 : Int32).toNatClampNeg = 0 from rfl]
    refine lv_iload hx hb dL_law_863 (lv_at hl 0 rfl) ?_
    refine lv_i2l (v := Int32.toInt64 bb) hx hb dL_law_865 rfl ?_
    refine W.lcmp hx hb dL_law_866 ?_
    rw [ho z, lcmp0]
    refine lv_if_eq (tgt := 872) hx hb dL_law_867 (by decide) (fun _ => ?_) (fun c_ => absurd rfl c_)
    refine lv_goto (tgt := 2033) hx hb dL_law_872 (by decide) ?_
    exact W.widen (k := cells + 60) (n := slots + 4000) (by omega) (by omega) (hN _ _ _ _ _ _ hI2 hP hD hS (lv_sub hl [2, 3, 4, 5, 6] rfl))

set_option maxHeartbeats 4000000 in
set_option maxRecDepth 100000 in
theorem law_c11 {p : Program} {l : Launch} {e : Env} {s : State} {m : MethodId} {below : List Frame} {meth : Method} {c : Code} {b L : Nat} {xs : Nat → Int32} {G : GT} {qm q : Nat → Nat} {qo t cells slots : Nat} {Q : State → Prop} {C M : St} {o : Nat → Int64} {H : Heap} {locs : List Loc} {ls : Array Slot} (hL : LE p l s m meth c b L xs G) (ht : 4 * t + 3 < L) (hc : cells + 60 ≤ 601024 ∧ slots + 4000 ≤ 7293034) (hN : LN p l e s m below meth c b G qm q qo t cells slots Q) (hI : Inv C M) (hP : va_P G.1 vwCl (LW G qm q qo M C o) H) (hD : va_D (LA s) (LW G qm q qo M C o)) (hS : va_S (LA s) s.heap H locs) (hl : lv_has ls 9 (lwL b (qm 0) (q 0) qo t)) : W p l e room_1 s m #[.ref b] below meth c H locs cells slots Q (F0 m 888 ls []) := by
  obtain ⟨⟨hx, hb, hr, hts, hown, hml, hlocks⟩, hl0, hK, hE, hZ, hX, hbl, hL2⟩ := hL
  obtain ⟨D, i0, o0, hI⟩ := hI
  obtain ⟨x1, hx1⟩ : ∃ x, xs (4 * t + 1) = x := ⟨_, rfl⟩
  obtain ⟨k, bb, M', C', o', hw, hM, hI2, h7, ho⟩ := agR (cd := cdL_stateOf) ((aState hI x1).1) (by intro k; unfold cdL_stateOf; (repeat' split) <;> decide) Int32.toInt64 o
  refine lv_aload_n hx hb dL_law_888 rfl (lv_at hl 3 rfl) ?_
  refine lv_aload_n hx hb dL_law_889 rfl (lv_at hl 4 rfl) ?_
  refine lv_iload hx hb dL_law_890 (lv_at hl 0 rfl) ?_
  refine lv_iconst (v := 1) hx hb dL_law_892 (by decide) ?_
  refine lv_iadd hx hb dL_law_893 ?_
  rw [show (nI (4 * t) + 1 : Int32) = nI (4 * t + 1) from nI_add (4 * t) 1]
  refine va_sld hx hb hX hbl (Nat.not_le_of_lt hbl) hS (vp_in_nI (by omega) (by omega)) dL_law_894 ?_
  rw [nI_clamp (n := 4 * t + 1) (by omega), hx1]
  refine lv_aload_n hx hb dL_law_895 rfl (lv_at hl 1 rfl) ?_
  refine lw_x (vx_runSW (As := [.ref (q 0), .int x1, .ref qo]) (rest := []) ⟨hx, hb, hml, hown, hts⟩ (kL_stateOf l hl0 G q qo C o _ x1 _ hw) (vx_cwSW 3 hts gL_law_L_stateOf rfl rfl rfl (by decide +kernel) ⟨Nat.le_of_ble_eq_true rfl, Nat.le_of_ble_eq_true rfl⟩) (xS (lw_PX hP) (lw_DX hD) hS hK lw_hA hE) rfl rfl hl.1 rfl (lv_room (Nat.le_of_ble_eq_true rfl)) dL_law_896 ⟨by show cells + 1 ≤ 601024; omega, by show slots + 6 ≤ 7293034; omega⟩) hP hD hS (fun H locs hP hD hS => ?_)
  have hP : va_P G.1 vwCl (LW G qm q qo M C' o') H := hP
  have hD : va_D (LA s) (LW G qm q qo M C' o') := hD
  refine lv_istore (lv' := [(5, .int k), (4, .int (nI (4 * t))), (3, .ref qo), (2, .ref (qm 0)), (1, .ref (q 0)), (0, .ref b)]) hx hb dL_law_899 hl (by decide) rfl (fun ls hl => ?_)
  refine lv_aload_n hx hb dL_law_901 rfl (lv_at hl 3 rfl) ?_
  refine lv_aload_n hx hb dL_law_902 rfl (lv_at hl 5 rfl) ?_
  refine lv_iload hx hb dL_law_903 (lv_at hl 1 rfl) ?_
  refine lv_iconst (v := 1) hx hb dL_law_905 (by decide) ?_
  refine lv_iadd hx hb dL_law_906 ?_
  rw [show (nI (4 * t) + 1 : Int32) = nI (4 * t + 1) from nI_add (4 * t) 1]
  refine va_sld hx hb hX hbl (Nat.not_le_of_lt hbl) hS (vp_in_nI (by omega) (by omega)) dL_law_907 ?_
  rw [nI_clamp (n := 4 * t + 1) (by omega), hx1]
  refine lm_i (va_runV (As := [.int x1]) (rest := []) ⟨hx, hb, hml, hown, hts⟩ (kX7_stateOf l G qm M _ x1 _ hM) (cwV 1 hts gL_law_X7_stateOf rfl rfl rfl (by decide +kernel) ⟨Nat.le_of_ble_eq_true rfl, Nat.le_of_ble_eq_true rfl⟩) (wrV (lw_PM hP) (lw_DM hD) hK 8 0 rfl rfl) rfl rfl hl.1 rfl (lv_room (Nat.le_of_ble_eq_true rfl)) dL_law_908 ⟨by show cells + 1 + 0 ≤ 601024; omega, by show slots + 6 + 0 ≤ 7293034; omega⟩) hP hD hS (fun H locs hP hD hS => ?_)
  have hP : va_P G.1 vwCl (LW G qm q qo M' C' o') H := hP
  have hD : va_D (LA s) (LW G qm q qo M' C' o') := hD
  refine lv_istore (lv' := [(6, .int bb), (5, .int k), (4, .int (nI (4 * t))), (3, .ref qo), (2, .ref (qm 0)), (1, .ref (q 0)), (0, .ref b)]) hx hb dL_law_911 hl (by decide) rfl (fun ls hl => ?_)
  refine lv_aload_n hx hb dL_law_913 rfl (lv_at hl 4 rfl) ?_
  refine ro_i (va_runV (As := []) (rest := []) ⟨hx, hb, hml, hown, hts⟩ (kX7_thrown l G qm M' _ rfl) (cwV 0 hts gL_law_X7_thrown rfl rfl rfl (by decide +kernel) ⟨Nat.le_of_ble_eq_true rfl, Nat.le_of_ble_eq_true rfl⟩) (roV (lw_PM hP) hK 8 0 rfl rfl) rfl rfl hl.1 rfl (lv_room (Nat.le_of_ble_eq_true rfl)) dL_law_914 ⟨by show cells + 1 + 0 + 0 ≤ 601024; omega, by show slots + 6 + 0 + 0 ≤ 7293034; omega⟩) ?_
  rw [h7]
  refine lv_iload hx hb dL_law_917 (lv_at hl 1 rfl) ?_
  refine lv_icmp_eq (tgt := 924) hx hb dL_law_919 (by decide) (fun _ => ?_) (fun c_ => absurd rfl c_)
  refine lv_iload hx hb dL_law_924 (lv_at hl 1 rfl) ?_
  refine lv_if_ne (tgt := 941) hx hb dL_law_926 (by decide) (fun _ => ?_) (fun z => ?_)
  · skip
    refine lv_goto (tgt := 2033) hx hb dL_law_941 (by decide) ?_
    exact W.widen (k := cells + 60) (n := slots + 4000) (by omega) (by omega) (hN _ _ _ _ _ _ hI2 hP hD hS (lv_sub hl [2, 3, 4, 5, 6] rfl))
  · skip
    refine lv_aload_n hx hb dL_law_929 rfl (lv_at hl 3 rfl) ?_
    refine lv_iconst (v := 0) hx hb dL_law_930 (by decide) ?_
    refine va_lald (D := G.1) hx hb hK.1 hP 37 3 rfl rfl (by unfold vp_in; decide) dL_law_931 ?_
    rw [show (0 : Int32).toNatClampNeg = 0 from rfl]
    refine lv_iload hx hb dL_law_932 (lv_at hl 0 rfl) ?_
    refine lv_i2l (v := Int32.toInt64 bb) hx hb dL_law_934 rfl ?_
    refine W.lcmp hx hb dL_law_935 ?_
    rw [ho z, lcmp0]
    refine lv_if_eq (tgt := 941) hx hb dL_law_936 (by decide) (fun _ => ?_) (fun c_ => absurd rfl c_)
    refine lv_goto (tgt := 2033) hx hb dL_law_941 (by decide) ?_
    exact W.widen (k := cells + 60) (n := slots + 4000) (by omega) (by omega) (hN _ _ _ _ _ _ hI2 hP hD hS (lv_sub hl [2, 3, 4, 5, 6] rfl))

set_option maxHeartbeats 4000000 in
set_option maxRecDepth 100000 in
theorem law_c12 {p : Program} {l : Launch} {e : Env} {s : State} {m : MethodId} {below : List Frame} {meth : Method} {c : Code} {b L : Nat} {xs : Nat → Int32} {G : GT} {qm q : Nat → Nat} {qo t cells slots : Nat} {Q : State → Prop} {C M : St} {o : Nat → Int64} {H : Heap} {locs : List Loc} {ls : Array Slot} (hL : LE p l s m meth c b L xs G) (ht : 4 * t + 3 < L) (hc : cells + 60 ≤ 601024 ∧ slots + 4000 ≤ 7293034) (hN : LN p l e s m below meth c b G qm q qo t cells slots Q) (hI : Inv C M) (hP : va_P G.1 vwCl (LW G qm q qo M C o) H) (hD : va_D (LA s) (LW G qm q qo M C o)) (hS : va_S (LA s) s.heap H locs) (hl : lv_has ls 9 (lwL b (qm 0) (q 0) qo t)) : W p l e room_1 s m #[.ref b] below meth c H locs cells slots Q (F0 m 944 ls []) := by
  obtain ⟨⟨hx, hb, hr, hts, hown, hml, hlocks⟩, hl0, hK, hE, hZ, hX, hbl, hL2⟩ := hL
  obtain ⟨D, i0, o0, hI⟩ := hI
  obtain ⟨x1, hx1⟩ : ∃ x, xs (4 * t + 1) = x := ⟨_, rfl⟩
  obtain ⟨k, bb, M', C', o', hw, hM, hI2, h7, ho⟩ := agR (cd := cdL_stateByAll) ((aState hI x1).2) (by intro k; unfold cdL_stateByAll; (repeat' split) <;> decide) Int32.toInt64 o
  refine lv_aload_n hx hb dL_law_944 rfl (lv_at hl 3 rfl) ?_
  refine lv_aload_n hx hb dL_law_945 rfl (lv_at hl 4 rfl) ?_
  refine lv_iload hx hb dL_law_946 (lv_at hl 0 rfl) ?_
  refine lv_iconst (v := 1) hx hb dL_law_948 (by decide) ?_
  refine lv_iadd hx hb dL_law_949 ?_
  rw [show (nI (4 * t) + 1 : Int32) = nI (4 * t + 1) from nI_add (4 * t) 1]
  refine va_sld hx hb hX hbl (Nat.not_le_of_lt hbl) hS (vp_in_nI (by omega) (by omega)) dL_law_950 ?_
  rw [nI_clamp (n := 4 * t + 1) (by omega), hx1]
  refine lv_aload_n hx hb dL_law_951 rfl (lv_at hl 1 rfl) ?_
  refine lw_x (vx_runSW (As := [.ref (q 0), .int x1, .ref qo]) (rest := []) ⟨hx, hb, hml, hown, hts⟩ (kL_stateByAll l hl0 G q qo C o _ x1 _ hw) (vx_cwSW 3 hts gL_law_L_stateByAll rfl rfl rfl (by decide +kernel) ⟨Nat.le_of_ble_eq_true rfl, Nat.le_of_ble_eq_true rfl⟩) (xS (lw_PX hP) (lw_DX hD) hS hK lw_hA hE) rfl rfl hl.1 rfl (lv_room (Nat.le_of_ble_eq_true rfl)) dL_law_952 ⟨by show cells + 1 ≤ 601024; omega, by show slots + 6 ≤ 7293034; omega⟩) hP hD hS (fun H locs hP hD hS => ?_)
  have hP : va_P G.1 vwCl (LW G qm q qo M C' o') H := hP
  have hD : va_D (LA s) (LW G qm q qo M C' o') := hD
  refine lv_istore (lv' := [(5, .int k), (4, .int (nI (4 * t))), (3, .ref qo), (2, .ref (qm 0)), (1, .ref (q 0)), (0, .ref b)]) hx hb dL_law_955 hl (by decide) rfl (fun ls hl => ?_)
  refine lv_aload_n hx hb dL_law_957 rfl (lv_at hl 3 rfl) ?_
  refine lv_aload_n hx hb dL_law_958 rfl (lv_at hl 5 rfl) ?_
  refine lv_iload hx hb dL_law_959 (lv_at hl 1 rfl) ?_
  refine lv_iconst (v := 1) hx hb dL_law_961 (by decide) ?_
  refine lv_iadd hx hb dL_law_962 ?_
  rw [show (nI (4 * t) + 1 : Int32) = nI (4 * t + 1) from nI_add (4 * t) 1]
  refine va_sld hx hb hX hbl (Nat.not_le_of_lt hbl) hS (vp_in_nI (by omega) (by omega)) dL_law_963 ?_
  rw [nI_clamp (n := 4 * t + 1) (by omega), hx1]
  refine lm_i (va_runV (As := [.int x1]) (rest := []) ⟨hx, hb, hml, hown, hts⟩ (kX7_stateByAll l G qm M _ x1 _ hM) (cwV 1 hts gL_law_X7_stateByAll rfl rfl rfl (by decide +kernel) ⟨Nat.le_of_ble_eq_true rfl, Nat.le_of_ble_eq_true rfl⟩) (wrV (lw_PM hP) (lw_DM hD) hK 8 0 rfl rfl) rfl rfl hl.1 rfl (lv_room (Nat.le_of_ble_eq_true rfl)) dL_law_964 ⟨by show cells + 1 + 0 ≤ 601024; omega, by show slots + 6 + 0 ≤ 7293034; omega⟩) hP hD hS (fun H locs hP hD hS => ?_)
  have hP : va_P G.1 vwCl (LW G qm q qo M' C' o') H := hP
  have hD : va_D (LA s) (LW G qm q qo M' C' o') := hD
  refine lv_istore (lv' := [(6, .int bb), (5, .int k), (4, .int (nI (4 * t))), (3, .ref qo), (2, .ref (qm 0)), (1, .ref (q 0)), (0, .ref b)]) hx hb dL_law_967 hl (by decide) rfl (fun ls hl => ?_)
  refine lv_aload_n hx hb dL_law_969 rfl (lv_at hl 4 rfl) ?_
  refine ro_i (va_runV (As := []) (rest := []) ⟨hx, hb, hml, hown, hts⟩ (kX7_thrown l G qm M' _ rfl) (cwV 0 hts gL_law_X7_thrown rfl rfl rfl (by decide +kernel) ⟨Nat.le_of_ble_eq_true rfl, Nat.le_of_ble_eq_true rfl⟩) (roV (lw_PM hP) hK 8 0 rfl rfl) rfl rfl hl.1 rfl (lv_room (Nat.le_of_ble_eq_true rfl)) dL_law_970 ⟨by show cells + 1 + 0 + 0 ≤ 601024; omega, by show slots + 6 + 0 + 0 ≤ 7293034; omega⟩) ?_
  rw [h7]
  refine lv_iload hx hb dL_law_973 (lv_at hl 1 rfl) ?_
  refine lv_icmp_eq (tgt := 980) hx hb dL_law_975 (by decide) (fun _ => ?_) (fun c_ => absurd rfl c_)
  refine lv_iload hx hb dL_law_980 (lv_at hl 1 rfl) ?_
  refine lv_if_ne (tgt := 997) hx hb dL_law_982 (by decide) (fun _ => ?_) (fun z => ?_)
  · skip
    refine lv_goto (tgt := 2033) hx hb dL_law_997 (by decide) ?_
    exact W.widen (k := cells + 60) (n := slots + 4000) (by omega) (by omega) (hN _ _ _ _ _ _ hI2 hP hD hS (lv_sub hl [2, 3, 4, 5, 6] rfl))
  · skip
    refine lv_aload_n hx hb dL_law_985 rfl (lv_at hl 3 rfl) ?_
    refine lv_iconst (v := 0) hx hb dL_law_986 (by decide) ?_
    refine va_lald (D := G.1) hx hb hK.1 hP 37 3 rfl rfl (by unfold vp_in; decide) dL_law_987 ?_
    rw [show (0 : Int32).toNatClampNeg = 0 from rfl]
    refine lv_iload hx hb dL_law_988 (lv_at hl 0 rfl) ?_
    refine lv_i2l (v := Int32.toInt64 bb) hx hb dL_law_990 rfl ?_
    refine W.lcmp hx hb dL_law_991 ?_
    rw [ho z, lcmp0]
    refine lv_if_eq (tgt := 997) hx hb dL_law_992 (by decide) (fun _ => ?_) (fun c_ => absurd rfl c_)
    refine lv_goto (tgt := 2033) hx hb dL_law_997 (by decide) ?_
    exact W.widen (k := cells + 60) (n := slots + 4000) (by omega) (by omega) (hN _ _ _ _ _ _ hI2 hP hD hS (lv_sub hl [2, 3, 4, 5, 6] rfl))

