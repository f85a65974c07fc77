set_option maxHeartbeats 4000000 in
set_option maxRecDepth 100000 in
theorem law_c10 {p : Program} {l : Launch} {e : Env} {s : State} {m : MethodId} {below : List Frame} {meth : Method} {c : Code} {b L : Nat} {xs : Nat → Int32} {G : GT} {qm q : Nat → Nat} {qo t cells slots : Nat} {Q : State → Prop} {C M : St} {o : Nat → Int64} {H : Heap} {locs : List Loc} {ls : Array Slot} (hL : LE p l s m meth c b L xs G) (ht : 4 * t + 3 < L) (hc : cells + 60 ≤ 601024 ∧ slots + 4000 ≤ 7293034) (hN : LN p l e s m below meth c b G qm q qo t cells slots Q) (hI : Inv C M) (hP : va_P G.1 vwCl (LW G qm q qo M C o) H) (hD : va_D (LA s) (LW G qm q qo M C o)) (hS : va_S (LA s) s.heap H locs) (hl : lv_has ls 9 (lwL b (qm 0) (q 0) qo t)) : W p l e room_1 s m #[.ref b] below meth c H locs cells slots Q (F0 m 875 ls []) := by
  obtain ⟨⟨hx, hb, hr, hts, hown, hml, hlocks⟩, hl0, hK, hE, hZ, hX, hbl, hL2⟩ := hL
  obtain ⟨D, i0, o0, hI⟩ := hI
  obtain ⟨bb, C', M', hw, hM, hI2⟩ := aRetractAll hI
  refine lv_aload_n hx hb dL_law_875 rfl (lv_at hl 3 rfl) ?_
  refine lc_i (va_runV (As := []) (rest := []) ⟨hx, hb, hml, hown, hts⟩ (kX6_retractAll l G q C _ _ hw) (cwV 0 hts gL_law_X6_retractAll rfl rfl rfl (by decide +kernel) ⟨Nat.le_of_ble_eq_true rfl, Nat.le_of_ble_eq_true rfl⟩) (wrV (lw_PC hP) (lw_DC hD) hK 7 0 rfl rfl) rfl rfl hl.1 rfl (lv_room (Nat.le_of_ble_eq_true rfl)) dL_law_876 ⟨by show cells + 0 ≤ 601024; omega, by show slots + 0 ≤ 7293034; omega⟩) hP hD hS (fun H locs hP hD hS => ?_)
  have hP : va_P G.1 vwCl (LW G qm q qo M C' o) H := hP
  have hD : va_D (LA s) (LW G qm q qo M C' o) := hD
  refine lv_aload_n hx hb dL_law_879 rfl (lv_at hl 2 rfl) ?_
  refine lm_i (va_runV (As := []) (rest := [.int bb]) ⟨hx, hb, hml, hown, hts⟩ (kX7_retractAll l G qm M _ _ hM) (cwV 0 hts gL_law_X7_retractAll rfl rfl rfl (by decide +kernel) ⟨Nat.le_of_ble_eq_true rfl, Nat.le_of_ble_eq_true rfl⟩) (wrV (lw_PM hP) (lw_DM hD) hK 8 0 rfl rfl) rfl rfl hl.1 rfl (lv_room (Nat.le_of_ble_eq_true rfl)) dL_law_880 ⟨by show cells + 0 + 0 ≤ 601024; omega, by show slots + 0 + 0 ≤ 7293034; omega⟩) hP hD hS (fun H locs hP hD hS => ?_)
  have hP : va_P G.1 vwCl (LW G qm q qo M' C' o) H := hP
  have hD : va_D (LA s) (LW G qm q qo M' C' o) := hD
  refine lv_icmp_eq (tgt := 2033) hx hb dL_law_883 (by decide) (fun _ => ?_) (fun c_ => absurd rfl c_)
  exact W.widen (k := cells + 60) (n := slots + 4000) (by omega) (by omega) (hN _ _ _ _ _ _ hI2 hP hD hS (lv_sub hl [0, 1, 2, 3, 4] rfl))

set_option maxHeartbeats 4000000 in
set_option maxRecDepth 100000 in
theorem law_c16 {p : Program} {l : Launch} {e : Env} {s : State} {m : MethodId} {below : List Frame} {meth : Method} {c : Code} {b L : Nat} {xs : Nat → Int32} {G : GT} {qm q : Nat → Nat} {qo t cells slots : Nat} {Q : State → Prop} {C M : St} {o : Nat → Int64} {H : Heap} {locs : List Loc} {ls : Array Slot} (hL : LE p l s m meth c b L xs G) (ht : 4 * t + 3 < L) (hc : cells + 60 ≤ 601024 ∧ slots + 4000 ≤ 7293034) (hN : LN p l e s m below meth c b G qm q qo t cells slots Q) (hI : Inv C M) (hP : va_P G.1 vwCl (LW G qm q qo M C o) H) (hD : va_D (LA s) (LW G qm q qo M C o)) (hS : va_S (LA s) s.heap H locs) (hl : lv_has ls 9 (lwL b (qm 0) (q 0) qo t)) : W p l e room_1 s m #[.ref b] below meth c H locs cells slots Q (F0 m 1168 ls []) := by
  obtain ⟨⟨hx, hb, hr, hts, hown, hml, hlocks⟩, hl0, hK, hE, hZ, hX, hbl, hL2⟩ := hL
  obtain ⟨D, i0, o0, hI⟩ := hI
  obtain ⟨bb, C', M', hw, hM, hI2⟩ := aUnknown hI
  refine lv_aload_n hx hb dL_law_1168 rfl (lv_at hl 3 rfl) ?_
  refine lc_i (va_runV (As := []) (rest := []) ⟨hx, hb, hml, hown, hts⟩ (kX6_unknown l G q C _ _ hw) (cwV 0 hts gL_law_X6_unknown rfl rfl rfl (by decide +kernel) ⟨Nat.le_of_ble_eq_true rfl, Nat.le_of_ble_eq_true rfl⟩) (wrV (lw_PC hP) (lw_DC hD) hK 7 0 rfl rfl) rfl rfl hl.1 rfl (lv_room (Nat.le_of_ble_eq_true rfl)) dL_law_1169 ⟨by show cells + 0 ≤ 601024; omega, by show slots + 0 ≤ 7293034; omega⟩) hP hD hS (fun H locs hP hD hS => ?_)
  have hP : va_P G.1 vwCl (LW G qm q qo M C' o) H := hP
  have hD : va_D (LA s) (LW G qm q qo M C' o) := hD
  refine lv_aload_n hx hb dL_law_1172 rfl (lv_at hl 2 rfl) ?_
  refine lm_i (va_runV (As := []) (rest := [.int bb]) ⟨hx, hb, hml, hown, hts⟩ (kX7_unknown l G qm M _ _ hM) (cwV 0 hts gL_law_X7_unknown rfl rfl rfl (by decide +kernel) ⟨Nat.le_of_ble_eq_true rfl, Nat.le_of_ble_eq_true rfl⟩) (wrV (lw_PM hP) (lw_DM hD) hK 8 0 rfl rfl) rfl rfl hl.1 rfl (lv_room (Nat.le_of_ble_eq_true rfl)) dL_law_1173 ⟨by show cells + 0 + 0 ≤ 601024; omega, by show slots + 0 + 0 ≤ 7293034; omega⟩) hP hD hS (fun H locs hP hD hS => ?_)
  have hP : va_P G.1 vwCl (LW G qm q qo M' C' o) H := hP
  have hD : va_D (LA s) (LW G qm q qo M' C' o) := hD
  refine lv_icmp_eq (tgt := 2033) hx hb dL_law_1176 (by decide) (fun _ => ?_) (fun c_ => absurd rfl c_)
  exact W.widen (k := cells + 60) (n := slots + 4000) (by omega) (by omega) (hN _ _ _ _ _ _ hI2 hP hD hS (lv_sub hl [0, 1, 2, 3, 4] rfl))

set_option maxHeartbeats 4000000 in
set_option maxRecDepth 100000 in
theorem law_c18 {p : Program} {l : Launch} {e : Env} {s : State} {m : MethodId} {below : List Frame} {meth : Method} {c : Code} {b L : Nat} {xs : Nat → Int32} {G : GT} {qm q : Nat → Nat} {qo t cells slots : Nat} {Q : State → Prop} {C M : St} {o : Nat → Int64} {H : Heap} {locs : List Loc} {ls : Array Slot} (hL : LE p l s m meth c b L xs G) (ht : 4 * t + 3 < L) (hc : cells + 60 ≤ 601024 ∧ slots + 4000 ≤ 7293034) (hN : LN p l e s m below meth c b G qm q qo t cells slots Q) (hI : Inv C M) (hP : va_P G.1 vwCl (LW G qm q qo M C o) H) (hD : va_D (LA s) (LW G qm q qo M C o)) (hS : va_S (LA s) s.heap H locs) (hl : lv_has ls 9 (lwL b (qm 0) (q 0) qo t)) : W p l e room_1 s m #[.ref b] below meth c H locs cells slots Q (F0 m 1244 ls []) := by
  obtain ⟨⟨hx, hb, hr, hts, hown, hml, hlocks⟩, hl0, hK, hE, hZ, hX, hbl, hL2⟩ := hL
  obtain ⟨D, i0, o0, hI⟩ := hI
  obtain ⟨bb, M', hw, hM, hI2⟩ := (aCount hI).1
  refine lv_aload_n hx hb dL_law_1244 rfl (lv_at hl 3 rfl) ?_
  refine ro_l (va_runV (As := []) (rest := []) ⟨hx, hb, hml, hown, hts⟩ (kX6_completions l G q C bb hw) (cwV 0 hts gL_law_X6_completions rfl rfl rfl (by decide +kernel) ⟨Nat.le_of_ble_eq_true rfl, Nat.le_of_ble_eq_true rfl⟩) (roV (lw_PC hP) hK 7 0 rfl rfl) rfl rfl hl.1 rfl (lv_room (Nat.le_of_ble_eq_true rfl)) dL_law_1245 ⟨by show cells + 0 ≤ 601024; omega, by show slots + 0 ≤ 7293034; omega⟩) ?_
  refine lv_aload_n hx hb dL_law_1248 rfl (lv_at hl 2 rfl) ?_
  refine lm_l (va_runV (As := []) (rest := [.long bb]) ⟨hx, hb, hml, hown, hts⟩ (kX7_completions l G qm M _ _ hM) (cwV 0 hts gL_law_X7_completions rfl rfl rfl (by decide +kernel) ⟨Nat.le_of_ble_eq_true rfl, Nat.le_of_ble_eq_true rfl⟩) (wrV (lw_PM hP) (lw_DM hD) hK 8 0 rfl rfl) rfl rfl hl.1 rfl (lv_room (Nat.le_of_ble_eq_true rfl)) dL_law_1249 ⟨by show cells + 0 ≤ 601024; omega, by show slots + 0 ≤ 7293034; omega⟩) hP hD hS (fun H locs hP hD hS => ?_)
  have hP : va_P G.1 vwCl (LW G qm q qo M' C o) H := hP
  have hD : va_D (LA s) (LW G qm q qo M' C o) := hD
  refine W.lcmp hx hb dL_law_1252 ?_
  rw [lcmp0]
  refine lv_if_eq (tgt := 2033) hx hb dL_law_1253 (by decide) (fun _ => ?_) (fun c_ => absurd rfl c_)
  exact W.widen (k := cells + 60) (n := slots + 4000) (by omega) (by omega) (hN _ _ _ _ _ _ hI2 hP hD hS (lv_sub hl [0, 1, 2, 3, 4] rfl))

set_option maxHeartbeats 4000000 in
set_option maxRecDepth 100000 in
theorem law_c19 {p : Program} {l : Launch} {e : Env} {s : State} {m : MethodId} {below : List Frame} {meth : Method} {c : Code} {b L : Nat} {xs : Nat → Int32} {G : GT} {qm q : Nat → Nat} {qo t cells slots : Nat} {Q : State → Prop} {C M : St} {o : Nat → Int64} {H : Heap} {locs : List Loc} {ls : Array Slot} (hL : LE p l s m meth c b L xs G) (ht : 4 * t + 3 < L) (hc : cells + 60 ≤ 601024 ∧ slots + 4000 ≤ 7293034) (hN : LN p l e s m below meth c b G qm q qo t cells slots Q) (hI : Inv C M) (hP : va_P G.1 vwCl (LW G qm q qo M C o) H) (hD : va_D (LA s) (LW G qm q qo M C o)) (hS : va_S (LA s) s.heap H locs) (hl : lv_has ls 9 (lwL b (qm 0) (q 0) qo t)) : W p l e room_1 s m #[.ref b] below meth c H locs cells slots Q (F0 m 1258 ls []) := by
  obtain ⟨⟨hx, hb, hr, hts, hown, hml, hlocks⟩, hl0, hK, hE, hZ, hX, hbl, hL2⟩ := hL
  obtain ⟨D, i0, o0, hI⟩ := hI
  obtain ⟨bb, M', hw, hM, hI2⟩ := (aCount hI).2
  refine lv_aload_n hx hb dL_law_1258 rfl (lv_at hl 3 rfl) ?_
  refine ro_l (va_runV (As := []) (rest := []) ⟨hx, hb, hml, hown, hts⟩ (kX6_completionsByAll l G q C bb hw) (cwV 0 hts gL_law_X6_completionsByAll rfl rfl rfl (by decide +kernel) ⟨Nat.le_of_ble_eq_true rfl, Nat.le_of_ble_eq_true rfl⟩) (roV (lw_PC hP) hK 7 0 rfl rfl) rfl rfl hl.1 rfl (lv_room (Nat.le_of_ble_eq_true rfl)) dL_law_1259 ⟨by show cells + 0 ≤ 601024; omega, by show slots + 0 ≤ 7293034; omega⟩) ?_
  refine lv_aload_n hx hb dL_law_1262 rfl (lv_at hl 2 rfl) ?_
  refine lm_l (va_runV (As := []) (rest := [.long bb]) ⟨hx, hb, hml, hown, hts⟩ (kX7_completionsByAll l G qm M _ _ hM) (cwV 0 hts gL_law_X7_completionsByAll rfl rfl rfl (by decide +kernel) ⟨Nat.le_of_ble_eq_true rfl, Nat.le_of_ble_eq_true rfl⟩) (wrV (lw_PM hP) (lw_DM hD) hK 8 0 rfl rfl) rfl rfl hl.1 rfl (lv_room (Nat.le_of_ble_eq_true rfl)) dL_law_1263 ⟨by show cells + 0 ≤ 601024; omega, by show slots + 0 ≤ 7293034; omega⟩) hP hD hS (fun H locs hP hD hS => ?_)
  have hP : va_P G.1 vwCl (LW G qm q qo M' C o) H := hP
  have hD : va_D (LA s) (LW G qm q qo M' C o) := hD
  refine W.lcmp hx hb dL_law_1266 ?_
  rw [lcmp0]
  refine lv_if_eq (tgt := 2033) hx hb dL_law_1267 (by decide) (fun _ => ?_) (fun c_ => absurd rfl c_)
  exact W.widen (k := cells + 60) (n := slots + 4000) (by omega) (by omega) (hN _ _ _ _ _ _ hI2 hP hD hS (lv_sub hl [0, 1, 2, 3, 4] rfl))

set_option maxHeartbeats 4000000 in
set_option maxRecDepth 100000 in
theorem law_c25 {p : Program} {l : Launch} {e : Env} {s : State} {m : MethodId} {below : List Frame} {meth : Method} {c : Code} {b L : Nat} {xs : Nat → Int32} {G : GT} {qm q : Nat → Nat} {qo t cells slots : Nat} {Q : State → Prop} {C M : St} {o : Nat → Int64} {H : Heap} {locs : List Loc} {ls : Array Slot} (hL : LE p l s m meth c b L xs G) (ht : 4 * t + 3 < L) (hc : cells + 60 ≤ 601024 ∧ slots + 4000 ≤ 7293034) (hN : LN p l e s m below meth c b G qm q qo t cells slots Q) (hI : Inv C M) (hP : va_P G.1 vwCl (LW G qm q qo M C o) H) (hD : va_D (LA s) (LW G qm q qo M C o)) (hS : va_S (LA s) s.heap H locs) (hl : lv_has ls 9 (lwL b (qm 0) (q 0) qo t)) : W p l e room_1 s m #[.ref b] below meth c H locs cells slots Q (F0 m 1576 ls []) := by
  obtain ⟨⟨hx, hb, hr, hts, hown, hml, hlocks⟩, hl0, hK, hE, hZ, hX, hbl, hL2⟩ := hL
  obtain ⟨D, i0, o0, hI⟩ := hI
  obtain ⟨bb, M', hw, hM, hI2⟩ := (aCheap hI).1
  refine lv_aload_n hx hb dL_law_1576 rfl (lv_at hl 3 rfl) ?_
  refine ro_i (va_runV (As := []) (rest := []) ⟨hx, hb, hml, hown, hts⟩ (kX6_cheapest l G q C bb hw) (cwV 0 hts gL_law_X6_cheapest rfl rfl rfl (by decide +kernel) ⟨Nat.le_of_ble_eq_true rfl, Nat.le_of_ble_eq_true rfl⟩) (roV (lw_PC hP) hK 7 0 rfl rfl) rfl rfl hl.1 rfl (lv_room (Nat.le_of_ble_eq_true rfl)) dL_law_1577 ⟨by show cells + 0 ≤ 601024; omega, by show slots + 0 ≤ 7293034; omega⟩) ?_
  refine lv_aload_n hx hb dL_law_1580 rfl (lv_at hl 2 rfl) ?_
  refine lm_i (va_runV (As := []) (rest := [.int bb]) ⟨hx, hb, hml, hown, hts⟩ (kX7_cheapest l G qm M _ _ hM) (cwV 0 hts gL_law_X7_cheapest rfl rfl rfl (by decide +kernel) ⟨Nat.le_of_ble_eq_true rfl, Nat.le_of_ble_eq_true rfl⟩) (wrV (lw_PM hP) (lw_DM hD) hK 8 0 rfl rfl) rfl rfl hl.1 rfl (lv_room (Nat.le_of_ble_eq_true rfl)) dL_law_1581 ⟨by show cells + 0 ≤ 601024; omega, by show slots + 0 ≤ 7293034; omega⟩) hP hD hS (fun H locs hP hD hS => ?_)
  have hP : va_P G.1 vwCl (LW G qm q qo M' C o) H := hP
  have hD : va_D (LA s) (LW G qm q qo M' C o) := hD
  refine lv_icmp_eq (tgt := 2033) hx hb dL_law_1584 (by decide) (fun _ => ?_) (fun c_ => absurd rfl c_)
  exact W.widen (k := cells + 60) (n := slots + 4000) (by omega) (by omega) (hN _ _ _ _ _ _ hI2 hP hD hS (lv_sub hl [0, 1, 2, 3, 4] rfl))

set_option maxHeartbeats 4000000 in
set_option maxRecDepth 100000 in
theorem law_c26 {p : Program} {l : Launch} {e : Env} {s : State} {m : MethodId} {below : List Frame} {meth : Method} {c : Code} {b L : Nat} {xs : Nat → Int32} {G : GT} {qm q : Nat → Nat} {qo t cells slots : Nat} {Q : State → Prop} {C M : St} {o : Nat → Int64} {H : Heap} {locs : List Loc} {ls : Array Slot} (hL : LE p l s m meth c b L xs G) (ht : 4 * t + 3 < L) (hc : cells + 60 ≤ 601024 ∧ slots + 4000 ≤ 7293034) (hN : LN p l e s m below meth c b G qm q qo t cells slots Q) (hI : Inv C M) (hP : va_P G.1 vwCl (LW G qm q qo M C o) H) (hD : va_D (LA s) (LW G qm q qo M C o)) (hS : va_S (LA s) s.heap H locs) (hl : lv_has ls 9 (lwL b (qm 0) (q 0) qo t)) : W p l e room_1 s m #[.ref b] below meth c H locs cells slots Q (F0 m 1589 ls []) := by
  obtain ⟨⟨hx, hb, hr, hts, hown, hml, hlocks⟩, hl0, hK, hE, hZ, hX, hbl, hL2⟩ := hL
  obtain ⟨D, i0, o0, hI⟩ := hI
  obtain ⟨bb, M', hw, hM, hI2⟩ := (aCheap hI).2
  refine lv_aload_n hx hb dL_law_1589 rfl (lv_at hl 3 rfl) ?_
  refine ro_i (va_runV (As := []) (rest := []) ⟨hx, hb, hml, hown, hts⟩ (kX6_cheapestByAll l G q C bb hw) (cwV 0 hts gL_law_X6_cheapestByAll rfl rfl rfl (by decide +kernel) ⟨Nat.le_of_ble_eq_true rfl, Nat.le_of_ble_eq_true rfl⟩) (roV (lw_PC hP) hK 7 0 rfl rfl) rfl rfl hl.1 rfl (lv_room (Nat.le_of_ble_eq_true rfl)) dL_law_1590 ⟨by show cells + 0 ≤ 601024; omega, by show slots + 0 ≤ 7293034; omega⟩) ?_
  refine lv_aload_n hx hb dL_law_1593 rfl (lv_at hl 2 rfl) ?_
  refine lm_i (va_runV (As := []) (rest := [.int bb]) ⟨hx, hb, hml, hown, hts⟩ (kX7_cheapestByAll l G qm M _ _ hM) (cwV 0 hts gL_law_X7_cheapestByAll rfl rfl rfl (by decide +kernel) ⟨Nat.le_of_ble_eq_true rfl, Nat.le_of_ble_eq_true rfl⟩) (wrV (lw_PM hP) (lw_DM hD) hK 8 0 rfl rfl) rfl rfl hl.1 rfl (lv_room (Nat.le_of_ble_eq_true rfl)) dL_law_1594 ⟨by show cells + 0 ≤ 601024; omega, by show slots + 0 ≤ 7293034; omega⟩) hP hD hS (fun H locs hP hD hS => ?_)
  have hP : va_P G.1 vwCl (LW G qm q qo M' C o) H := hP
  have hD : va_D (LA s) (LW G qm q qo M' C o) := hD
  refine lv_icmp_eq (tgt := 2033) hx hb dL_law_1597 (by decide) (fun _ => ?_) (fun c_ => absurd rfl c_)
  exact W.widen (k := cells + 60) (n := slots + 4000) (by omega) (by omega) (hN _ _ _ _ _ _ hI2 hP hD hS (lv_sub hl [0, 1, 2, 3, 4] rfl))

set_option maxHeartbeats 4000000 in
set_option maxRecDepth 100000 in
theorem law_c27 {p : Program} {l : Launch} {e : Env} {s : State} {m : MethodId} {below : List Frame} {meth : Method} {c : Code} {b L : Nat} {xs : Nat → Int32} {G : GT} {qm q : Nat → Nat} {qo t cells slots : Nat} {Q : State → Prop} {C M : St} {o : Nat → Int64} {H : Heap} {locs : List Loc} {ls : Array Slot} (hL : LE p l s m meth c b L xs G) (ht : 4 * t + 3 < L) (hc : cells + 60 ≤ 601024 ∧ slots + 4000 ≤ 7293034) (hN : LN p l e s m below meth c b G qm q qo t cells slots Q) (hI : Inv C M) (hP : va_P G.1 vwCl (LW G qm q qo M C o) H) (hD : va_D (LA s) (LW G qm q qo M C o)) (hS : va_S (LA s) s.heap H locs) (hl : lv_has ls 9 (lwL b (qm 0) (q 0) qo t)) : W p l e room_1 s m #[.ref b] below meth c H locs cells slots Q (F0 m 1602 ls []) := by
  obtain ⟨⟨hx, hb, hr, hts, hown, hml, hlocks⟩, hl0, hK, hE, hZ, hX, hbl, hL2⟩ := hL
  obtain ⟨D, i0, o0, hI⟩ := hI
  obtain ⟨bb, C', M', hw, hM, hI2⟩ := aComplete hI
  refine lv_aload_n hx hb dL_law_1602 rfl (lv_at hl 3 rfl) ?_
  refine lc_i (va_runV (As := []) (rest := []) ⟨hx, hb, hml, hown, hts⟩ (kX6_complete l G q C _ _ hw) (cwV 0 hts gL_law_X6_complete rfl rfl rfl (by decide +kernel) ⟨Nat.le_of_ble_eq_true rfl, Nat.le_of_ble_eq_true rfl⟩) (wrV (lw_PC hP) (lw_DC hD) hK 7 0 rfl rfl) rfl rfl hl.1 rfl (lv_room (Nat.le_of_ble_eq_true rfl)) dL_law_1603 ⟨by show cells + 0 ≤ 601024; omega, by show slots + 0 ≤ 7293034; omega⟩) hP hD hS (fun H locs hP hD hS => ?_)
  have hP : va_P G.1 vwCl (LW G qm q qo M C' o) H := hP
  have hD : va_D (LA s) (LW G qm q qo M C' o) := hD
  refine lv_aload_n hx hb dL_law_1606 rfl (lv_at hl 2 rfl) ?_
  refine lm_i (va_runV (As := []) (rest := [.int bb]) ⟨hx, hb, hml, hown, hts⟩ (kX7_complete l G qm M _ _ hM) (cwV 0 hts gL_law_X7_complete rfl rfl rfl (by decide +kernel) ⟨Nat.le_of_ble_eq_true rfl, Nat.le_of_ble_eq_true rfl⟩) (wrV (lw_PM hP) (lw_DM hD) hK 8 0 rfl rfl) rfl rfl hl.1 rfl (lv_room (Nat.le_of_ble_eq_true rfl)) dL_law_1607 ⟨by show cells + 0 + 0 ≤ 601024; omega, by show slots + 0 + 0 ≤ 7293034; omega⟩) hP hD hS (fun H locs hP hD hS => ?_)
  have hP : va_P G.1 vwCl (LW G qm q qo M' C' o) H := hP
  have hD : va_D (LA s) (LW G qm q qo M' C' o) := hD
  refine lv_icmp_eq (tgt := 2033) hx hb dL_law_1610 (by decide) (fun _ => ?_) (fun c_ => absurd rfl c_)
  exact W.widen (k := cells + 60) (n := slots + 4000) (by omega) (by omega) (hN _ _ _ _ _ _ hI2 hP hD hS (lv_sub hl [0, 1, 2, 3, 4] rfl))

set_option maxHeartbeats 4000000 in
set_option maxRecDepth 100000 in
theorem law_c35 {p : Program} {l : Launch} {e : Env} {s : State} {m : MethodId} {below : List Frame} {meth : Method} {c : Code} {b L : Nat} {xs : Nat → Int32} {G : GT} {qm q : Nat → Nat} {qo t cells slots : Nat} {Q : State → Prop} {C M : St} {o : Nat → Int64} {H : Heap} {locs : List Loc} {ls : Array Slot} (hL : LE p l s m meth c b L xs G) (ht : 4 * t + 3 < L) (hc : cells + 60 ≤ 601024 ∧ slots + 4000 ≤ 7293034) (hN : LN p l e s m below meth c b G qm q qo t cells slots Q) (hI : Inv C M) (hP : va_P G.1 vwCl (LW G qm q qo M C o) H) (hD : va_D (LA s) (LW G qm q qo M C o)) (hS : va_S (LA s) s.heap H locs) (hl : lv_has ls 9 (lwL b (qm 0) (q 0) qo t)) : W p l e room_1 s m #[.ref b] below meth c H locs cells slots Q (F0 m 2020 ls []) := by
  obtain ⟨⟨hx, hb, hr, hts, hown, hml, hlocks⟩, hl0, hK, hE, hZ, hX, hbl, hL2⟩ := hL
  obtain ⟨D, i0, o0, hI⟩ := hI
  obtain ⟨bb, C', M', hw, hM, hI2⟩ := aSound hI
  refine lv_aload_n hx hb dL_law_2020 rfl (lv_at hl 3 rfl) ?_
  refine lc_i (va_runV (As := []) (rest := []) ⟨hx, hb, hml, hown, hts⟩ (kX6_isSound l G q C _ _ hw) (cwV 0 hts gL_law_X6_isSound rfl rfl rfl (by decide +kernel) ⟨Nat.le_of_ble_eq_true rfl, Nat.le_of_ble_eq_true rfl⟩) (wrV (lw_PC hP) (lw_DC hD) hK 7 0 rfl rfl) rfl rfl hl.1 rfl (lv_room (Nat.le_of_ble_eq_true rfl)) dL_law_2021 ⟨by show cells + 0 ≤ 601024; omega, by show slots + 0 ≤ 7293034; omega⟩) hP hD hS (fun H locs hP hD hS => ?_)
  have hP : va_P G.1 vwCl (LW G qm q qo M C' o) H := hP
  have hD : va_D (LA s) (LW G qm q qo M C' o) := hD
  refine lv_aload_n hx hb dL_law_2024 rfl (lv_at hl 2 rfl) ?_
  refine lm_i (va_runV (As := []) (rest := [.int bb]) ⟨hx, hb, hml, hown, hts⟩ (kX7_isSound l G qm M _ _ hM) (cwV 0 hts gL_law_X7_isSound rfl rfl rfl (by decide +kernel) ⟨Nat.le_of_ble_eq_true rfl, Nat.le_of_ble_eq_true rfl⟩) (wrV (lw_PM hP) (lw_DM hD) hK 8 0 rfl rfl) rfl rfl hl.1 rfl (lv_room (Nat.le_of_ble_eq_true rfl)) dL_law_2025 ⟨by show cells + 0 + 0 ≤ 601024; omega, by show slots + 0 + 0 ≤ 7293034; omega⟩) hP hD hS (fun H locs hP hD hS => ?_)
  have hP : va_P G.1 vwCl (LW G qm q qo M' C' o) H := hP
  have hD : va_D (LA s) (LW G qm q qo M' C' o) := hD
  refine lv_icmp_eq (tgt := 2033) hx hb dL_law_2028 (by decide) (fun _ => ?_) (fun c_ => absurd rfl c_)
  exact W.widen (k := cells + 60) (n := slots + 4000) (by omega) (by omega) (hN _ _ _ _ _ _ hI2 hP hD hS (lv_sub hl [0, 1, 2, 3, 4] rfl))

set_option maxHeartbeats 4000000 in
set_option maxRecDepth 100000 in
theorem law_c31 {p : Program} {l : Launch} {e : Env} {s : State} {m : MethodId} {below : List Frame} {meth : Method} {c : Code} {b L : Nat} {xs : Nat → Int32} {G : GT} {qm q : Nat → Nat} {qo t cells slots : Nat} {Q : State → Prop} {C M : St} {o : Nat → Int64} {H : Heap} {locs : List Loc} {ls : Array Slot} (hL : LE p l s m meth c b L xs G) (ht : 4 * t + 3 < L) (hc : cells + 60 ≤ 601024 ∧ slots + 4000 ≤ 7293034) (hN : LN p l e s m below meth c b G qm q qo t cells slots Q) (hI : Inv C M) (hP : va_P G.1 vwCl (LW G qm q qo M C o) H) (hD : va_D (LA s) (LW G qm q qo M C o)) (hS : va_S (LA s) s.heap H locs) (hl : lv_has ls 9 (lwL b (qm 0) (q 0) qo t)) : W p l e room_1 s m #[.ref b] below meth c H locs cells slots Q (F0 m 1867 ls []) := by
  obtain ⟨⟨hx, hb, hr, hts, hown, hml, hlocks⟩, hl0, hK, hE, hZ, hX, hbl, hL2⟩ := hL
  obtain ⟨D, i0, o0, hI⟩ := hI
  obtain ⟨E, K, C', ⟨d1, d2, d3, d4, d5, d6, d7, d8, d9, d10⟩, hw, hI2⟩ := aLine hI
  refine lv_aload_n hx hb dL_law_1867 rfl (lv_at hl 3 rfl) ?_
  refine lc_i (va_runV (As := []) (rest := []) ⟨hx, hb, hml, hown, hts⟩ (kX6_lineLength l G q C _ _ hw) (cwV 0 hts gL_law_X6_lineLength rfl rfl rfl (by decide +kernel) ⟨Nat.le_of_ble_eq_true rfl, Nat.le_of_ble_eq_true rfl⟩) (wrV (lw_PC hP) (lw_DC hD) hK 7 0 rfl rfl) rfl rfl hl.1 rfl (lv_room (Nat.le_of_ble_eq_true rfl)) dL_law_1868 ⟨by show cells + 0 ≤ 601024; omega, by show slots + 0 ≤ 7293034; omega⟩) hP hD hS (fun H locs hP hD hS => ?_)
  have hP : va_P G.1 vwCl (LW G qm q qo M C' o) H := hP
  have hD : va_D (LA s) (LW G qm q qo M C' o) := hD
  refine lv_aload_n hx hb dL_law_1871 rfl (lv_at hl 2 rfl) ?_
  refine lm_i (va_runV (As := []) (rest := [.int (nI (lnT K (D 0 0)).length)]) ⟨hx, hb, hml, hown, hts⟩ (kX7_lineLength l G qm M E K _ _ d1 d2 d3 d4 d5 d6 d7 d8 d9 d10) (cwV 0 hts gL_law_X7_lineLength rfl rfl rfl (by decide +kernel) ⟨Nat.le_of_ble_eq_true rfl, Nat.le_of_ble_eq_true rfl⟩) (zV (lw_PM hP) (lw_DM hD) hS hK lw_hA hZ 8 0 rfl rfl) rfl rfl hl.1 rfl (lv_room (Nat.le_of_ble_eq_true rfl)) dL_law_1872 ⟨by show cells + 0 + 52 ≤ 601024; omega, by show slots + 0 + 3500 ≤ 7293034; omega⟩) hP hD hS (fun H locs hP hD hS => ?_)
  have hP : va_P G.1 vwCl (LW G qm q qo E C' o) H := hP
  have hD : va_D (LA s) (LW G qm q qo E C' o) := hD
  refine lv_icmp_eq (tgt := 2033) hx hb dL_law_1875 (by decide) (fun _ => ?_) (fun c_ => absurd rfl c_)
  exact W.widen (k := cells + 60) (n := slots + 4000) (by omega) (by omega) (hN _ _ _ _ _ _ hI2 hP hD hS (lv_sub hl [0, 1, 2, 3, 4] rfl))

set_option maxHeartbeats 4000000 in
set_option maxRecDepth 100000 in
theorem law_c32 {p : Program} {l : Launch} {e : Env} {s : State} {m : MethodId} {below : List Frame} {meth : Method} {c : Code} {b L : Nat} {xs : Nat → Int32} {G : GT} {qm q : Nat → Nat} {qo t cells slots : Nat} {Q : State → Prop} {C M : St} {o : Nat → Int64} {H : Heap} {locs : List Loc} {ls : Array Slot} (hL : LE p l s m meth c b L xs G) (ht : 4 * t + 3 < L) (hc : cells + 60 ≤ 601024 ∧ slots + 4000 ≤ 7293034) (hN : LN p l e s m below meth c b G qm q qo t cells slots Q) (hI : Inv C M) (hP : va_P G.1 vwCl (LW G qm q qo M C o) H) (hD : va_D (LA s) (LW G qm q qo M C o)) (hS : va_S (LA s) s.heap H locs) (hl : lv_has ls 9 (lwL b (qm 0) (q 0) qo t)) : W p l e room_1 s m #[.ref b] below meth c H locs cells slots Q (F0 m 1880 ls []) := by
  obtain ⟨⟨hx, hb, hr, hts, hown, hml, hlocks⟩, hl0, hK, hE, hZ, hX, hbl, hL2⟩ := hL
  obtain ⟨D, i0, o0, hI⟩ := hI
  obtain ⟨x1, hx1⟩ : ∃ x, xs (4 * t + 1) = x := ⟨_, rfl⟩
  obtain ⟨E, K, ⟨d1, d2, d3, d4, d5, d6, d7, d8, d9, d10⟩, b0, ch, hin, hch, C', hI2, hw0⟩ := aLineAt hI x1
  obtain ⟨k, o', hw, h7, ho⟩ := agLine (E := E) hw0 o
  refine lv_aload_n hx hb dL_law_1880 rfl (lv_at hl 3 rfl) ?_
  refine lv_aload_n hx hb dL_law_1881 rfl (lv_at hl 4 rfl) ?_
  refine lv_iload hx hb dL_law_1882 (lv_at hl 0 rfl) ?_
  refine lv_iconst (v := 1) hx hb dL_law_1884 (by decide) ?_
  refine lv_iadd hx hb dL_law_1885 ?_
  rw [show (nI (4 * t) + 1 : Int32) = nI (4 * t + 1) from nI_add (4 * t) 1]
  refine va_sld hx hb hX hbl (Nat.not_le_of_lt hbl) hS (vp_in_nI (by omega) (by omega)) dL_law_1886 ?_
  rw [nI_clamp (n := 4 * t + 1) (by omega), hx1]
  refine lv_aload_n hx hb dL_law_1887 rfl (lv_at hl 1 rfl) ?_
  refine lw_x (vx_runSW (As := [.ref (q 0), .int x1, .ref qo]) (rest := []) ⟨hx, hb, hml, hown, hts⟩ (kL_lineAt l hl0 G q qo C o _ x1 _ hw) (vx_cwSW 3 hts gL_law_L_lineAt rfl rfl rfl (by decide +kernel) ⟨Nat.le_of_ble_eq_true rfl, Nat.le_of_ble_eq_true rfl⟩) (xS (lw_PX hP) (lw_DX hD) hS hK lw_hA hE) rfl rfl hl.1 rfl (lv_room (Nat.le_of_ble_eq_true rfl)) dL_law_1888 ⟨by show cells + 1 ≤ 601024; omega, by show slots + 6 ≤ 7293034; omega⟩) hP hD hS (fun H locs hP hD hS => ?_)
  have hP : va_P G.1 vwCl (LW G qm q qo M C' o') H := hP
  have hD : va_D (LA s) (LW G qm q qo M C' o') := hD
  refine lv_istore (lv' := [(5, .int k), (4, .int (nI (4 * t))), (3, .ref qo), (2, .ref (qm 0)), (1, .ref (q 0)), (0, .ref b)]) hx hb dL_law_1891 hl (by decide) rfl (fun ls hl => ?_)
  refine lv_aload_n hx hb dL_law_1893 rfl (lv_at hl 3 rfl) ?_
  refine lv_aload_n hx hb dL_law_1894 rfl (lv_at hl 5 rfl) ?_
  refine lv_iload hx hb dL_law_1895 (lv_at hl 1 rfl) ?_
  refine lv_iconst (v := 1) hx hb dL_law_1897 (by decide) ?_
  refine lv_iadd hx hb dL_law_1898 ?_
  rw [show (nI (4 * t) + 1 : Int32) = nI (4 * t + 1) from nI_add (4 * t) 1]
  refine va_sld hx hb hX hbl (Nat.not_le_of_lt hbl) hS (vp_in_nI (by omega) (by omega)) dL_law_1899 ?_
  rw [nI_clamp (n := 4 * t + 1) (by omega), hx1]
  refine lm_i (va_runV (As := [.int x1]) (rest := []) ⟨hx, hb, hml, hown, hts⟩ (kX7_lineAt l G qm M E K _ x1 b0 ch _ d1 d2 d3 d4 d5 d6 d7 d8 d9 d10 hin hch) (cwV 1 hts gL_law_X7_lineAt rfl rfl rfl (by decide +kernel) ⟨Nat.le_of_ble_eq_true rfl, Nat.le_of_ble_eq_true rfl⟩) (zV (lw_PM hP) (lw_DM hD) hS hK lw_hA hZ 8 0 rfl rfl) rfl rfl hl.1 rfl (lv_room (Nat.le_of_ble_eq_true rfl)) dL_law_1900 ⟨by show cells + 1 + 52 ≤ 601024; omega, by show slots + 6 + 3500 ≤ 7293034; omega⟩) hP hD hS (fun H locs hP hD hS => ?_)
  have hP : va_P G.1 vwCl (LW G qm q qo (sS E 7 (if b0 then 0 else 1)) C' o') H := hP
  have hD : va_D (LA s) (LW G qm q qo (sS E 7 (if b0 then 0 else 1)) C' o') := hD
  refine lv_istore (lv' := [(6, .int (if b0 then ch else 45)), (5, .int k), (4, .int (nI (4 * t))), (3, .ref qo), (2, .ref (qm 0)), (1, .ref (q 0)), (0, .ref b)]) hx hb dL_law_1903 hl (by decide) rfl (fun ls hl => ?_)
  refine lv_aload_n hx hb dL_law_1905 rfl (lv_at hl 4 rfl) ?_
  refine ro_i (va_runV (As := []) (rest := []) ⟨hx, hb, hml, hown, hts⟩ (kX7_thrown l G qm (sS E 7 (if b0 then 0 else 1)) _ rfl) (cwV 0 hts gL_law_X7_thrown rfl rfl rfl (by decide +kernel) ⟨Nat.le_of_ble_eq_true rfl, Nat.le_of_ble_eq_true rfl⟩) (roV (lw_PM hP) hK 8 0 rfl rfl) rfl rfl hl.1 rfl (lv_room (Nat.le_of_ble_eq_true rfl)) dL_law_1906 ⟨by show cells + 1 + 52 + 0 ≤ 601024; omega, by show slots + 6 + 3500 + 0 ≤ 7293034; omega⟩) ?_
  rw [h7]
  refine lv_iload hx hb dL_law_1909 (lv_at hl 1 rfl) ?_
  refine lv_icmp_eq (tgt := 1916) hx hb dL_law_1911 (by decide) (fun _ => ?_) (fun c_ => absurd rfl c_)
  refine lv_iload hx hb dL_law_1916 (lv_at hl 1 rfl) ?_
  refine lv_if_ne (tgt := 1933) hx hb dL_law_1918 (by decide) (fun _ => ?_) (fun z => ?_)
  · skip
    refine lv_goto (tgt := 2033) hx hb dL_law_1933 (by decide) ?_
    exact W.widen (k := cells + 60) (n := slots + 4000) (by omega) (by omega) (hN _ _ _ _ _ _ hI2 hP hD hS (lv_sub hl [2, 3, 4, 5, 6] rfl))
  · skip
    refine lv_aload_n hx hb dL_law_1921 rfl (lv_at hl 3 rfl) ?_
    refine lv_iconst (v := 0) hx hb dL_law_1922 (by decide) ?_
    refine va_lald (D := G.1) hx hb hK.1 hP 37 3 rfl rfl (by unfold vp_in; decide) dL_law_1923 ?_
    rw [show (0 : Int32).toNatClampNeg = 0 from rfl]
    refine lv_iload hx hb dL_law_1924 (lv_at hl 0 rfl) ?_
    refine lv_i2l (v := Int32.toInt64 (if b0 then ch else 45)) hx hb dL_law_1926 rfl ?_
    refine W.lcmp hx hb dL_law_1927 ?_
    rw [ho z, lcmp0]
    refine lv_if_eq (tgt := 1933) hx hb dL_law_1928 (by decide) (fun _ => ?_) (fun c_ => absurd rfl c_)
    refine lv_goto (tgt := 2033) hx hb dL_law_1933 (by decide) ?_
    exact W.widen (k := cells + 60) (n := slots + 4000) (by omega) (by omega) (hN _ _ _ _ _ _ hI2 hP hD hS (lv_sub hl [2, 3, 4, 5, 6] rfl))

set_option maxHeartbeats 4000000 in
set_option maxRecDepth 100000 in
theorem law_c33 {p : Program} {l : Launch} {e : Env} {s : State} {m : MethodId} {below : List Frame} {meth : Method} {c : Code} {b L : Nat} {xs : Nat → Int32} {G : GT} {qm q : Nat → Nat} {qo t cells slots : Nat} {Q : State → Prop} {C M : St} {o : Nat → Int64} {H : Heap} {locs : List Loc} {ls : Array Slot} (hL : LE p l s m meth c b L xs G) (ht : 4 * t + 3 < L) (hc : cells + 60 ≤ 601024 ∧ slots + 4000 ≤ 7293034) (hN : LN p l e s m below meth c b G qm q qo t cells slots Q) (hI : Inv C M) (hP : va_P G.1 vwCl (LW G qm q qo M C o) H) (hD : va_D (LA s) (LW G qm q qo M C o)) (hS : va_S (LA s) s.heap H locs) (hl : lv_has ls 9 (lwL b (qm 0) (q 0) qo t)) : W p l e room_1 s m #[.ref b] below meth c H locs cells slots Q (F0 m 1936 ls []) := by
  obtain ⟨⟨hx, hb, hr, hts, hown, hml, hlocks⟩, hl0, hK, hE, hZ, hX, hbl, hL2⟩ := hL
  obtain ⟨D, i0, o0, hI⟩ := hI
  obtain ⟨bb, C', M', hw, hM, hI2, hf2⟩ := aShareV hI
  refine lv_aload_n hx hb dL_law_1936 rfl (lv_at hl 3 rfl) ?_
  refine lc_f (va_runV (As := []) (rest := []) ⟨hx, hb, hml, hown, hts⟩ (kX6_knownShare l G q C _ _ hw) (cwV 0 hts gL_law_X6_knownShare rfl rfl rfl (by decide +kernel) ⟨Nat.le_of_ble_eq_true rfl, Nat.le_of_ble_eq_true rfl⟩) (wrV (lw_PC hP) (lw_DC hD) hK 7 0 rfl rfl) rfl rfl hl.1 rfl (lv_room (Nat.le_of_ble_eq_true rfl)) dL_law_1937 ⟨by show cells + 0 ≤ 601024; omega, by show slots + 0 ≤ 7293034; omega⟩) hP hD hS (fun H locs hP hD hS => ?_)
  have hP : va_P G.1 vwCl (LW G qm q qo M C' o) H := hP
  have hD : va_D (LA s) (LW G qm q qo M C' o) := hD
  refine lv_f2d hx hb dL_law_1940 hf2 ?_
  refine lv_dstore (lv' := [(5, .double (FP.f2d bb)), (4, .int (nI (4 * t))), (3, .ref qo), (2, .ref (qm 0)), (1, .ref (q 0)), (0, .ref b)]) hx hb dL_law_1941 hl (by decide) rfl (fun ls hl => ?_)
  refine lv_aload_n hx hb dL_law_1943 rfl (lv_at hl 3 rfl) ?_
  refine lm_f (va_runV (As := []) (rest := []) ⟨hx, hb, hml, hown, hts⟩ (kX7_knownShare l G qm M _ _ hM) (cwV 0 hts gL_law_X7_knownShare rfl rfl rfl (by decide +kernel) ⟨Nat.le_of_ble_eq_true rfl, Nat.le_of_ble_eq_true rfl⟩) (wrV (lw_PM hP) (lw_DM hD) hK 8 0 rfl rfl) rfl rfl hl.1 rfl (lv_room (Nat.le_of_ble_eq_true rfl)) dL_law_1944 ⟨by show cells + 0 + 0 ≤ 601024; omega, by show slots + 0 + 0 ≤ 7293034; omega⟩) hP hD hS (fun H locs hP hD hS => ?_)
  have hP : va_P G.1 vwCl (LW G qm q qo M' C' o) H := hP
  have hD : va_D (LA s) (LW G qm q qo M' C' o) := hD
  refine lv_f2d hx hb dL_law_1947 hf2 ?_
  refine lv_dstore (lv' := [(7, .double (FP.f2d bb)), (5, .double (FP.f2d bb)), (4, .int (nI (4 * t))), (3, .ref qo), (2, .ref (qm 0)), (1, .ref (q 0)), (0, .ref b)]) hx hb dL_law_1948 hl (by decide) rfl (fun ls hl => ?_)
  refine lv_dload hx hb dL_law_1950 (lv_at hl 1 rfl) ?_
  refine lv_dload hx hb dL_law_1952 (lv_at hl 0 rfl) ?_
  refine lv_dcmp hx hb dL_law_1954 ?_
  by_cases zc : Op.cmpValue (FP.dcmp (FP.f2d bb) (FP.f2d bb)) .l = 0
  · refine lv_if_eq (tgt := 1976) hx hb dL_law_1955 (by decide) (fun _ => ?_) (fun c_ => absurd zc c_)
    refine lv_goto (tgt := 2033) hx hb dL_law_1976 (by decide) ?_
    exact W.widen (k := cells + 60) (n := slots + 4000) (by omega) (by omega) (hN _ _ _ _ _ _ hI2 hP hD hS (lv_sub hl [2, 3, 4, 5, 6] rfl))
  · refine lv_if_eq (tgt := 1976) hx hb dL_law_1955 (by decide) (fun c_ => absurd c_ zc) (fun _ => ?_)
    refine lv_dload hx hb dL_law_1958 (lv_at hl 1 rfl) ?_
    refine lv_dload hx hb dL_law_1960 (lv_at hl 1 rfl) ?_
    refine lv_dcmp hx hb dL_law_1962 ?_
    refine lv_if_eq (tgt := 1974) hx hb dL_law_1963 (by decide) (fun c_ => absurd c_ zc) (fun _ => ?_)
    refine lv_dload hx hb dL_law_1966 (lv_at hl 0 rfl) ?_
    refine lv_dload hx hb dL_law_1968 (lv_at hl 0 rfl) ?_
    refine lv_dcmp hx hb dL_law_1970 ?_
    refine lv_if_ne (tgt := 1976) hx hb dL_law_1971 (by decide) (fun _ => ?_) (fun c_ => absurd c_ zc)
    refine lv_goto (tgt := 2033) hx hb dL_law_1976 (by decide) ?_
    exact W.widen (k := cells + 60) (n := slots + 4000) (by omega) (by omega) (hN _ _ _ _ _ _ hI2 hP hD hS (lv_sub hl [2, 3, 4, 5, 6] rfl))

set_option maxHeartbeats 4000000 in
set_option maxRecDepth 100000 in
theorem law_c34 {p : Program} {l : Launch} {e : Env} {s : State} {m : MethodId} {below : List Frame} {meth : Method} {c : Code} {b L : Nat} {xs : Nat → Int32} {G : GT} {qm q : Nat → Nat} {qo t cells slots : Nat} {Q : State → Prop} {C M : St} {o : Nat → Int64} {H : Heap} {locs : List Loc} {ls : Array Slot} (hL : LE p l s m meth c b L xs G) (ht : 4 * t + 3 < L) (hc : cells + 60 ≤ 601024 ∧ slots + 4000 ≤ 7293034) (hN : LN p l e s m below meth c b G qm q qo t cells slots Q) (hI : Inv C M) (hP : va_P G.1 vwCl (LW G qm q qo M C o) H) (hD : va_D (LA s) (LW G qm q qo M C o)) (hS : va_S (LA s) s.heap H locs) (hl : lv_has ls 9 (lwL b (qm 0) (q 0) qo t)) : W p l e room_1 s m #[.ref b] below meth c H locs cells slots Q (F0 m 1979 ls []) := by
  obtain ⟨⟨hx, hb, hr, hts, hown, hml, hlocks⟩, hl0, hK, hE, hZ, hX, hbl, hL2⟩ := hL
  obtain ⟨D, i0, o0, hI⟩ := hI
  obtain ⟨bb, M', hw, hM, hI2⟩ := aMean hI
  refine lv_aload_n hx hb dL_law_1979 rfl (lv_at hl 3 rfl) ?_
  refine ro_d (va_runV (As := []) (rest := []) ⟨hx, hb, hml, hown, hts⟩ (kX6_meanPrice l G q C bb hw) (cwV 0 hts gL_law_X6_meanPrice rfl rfl rfl (by decide +kernel) ⟨Nat.le_of_ble_eq_true rfl, Nat.le_of_ble_eq_true rfl⟩) (roV (lw_PC hP) hK 7 0 rfl rfl) rfl rfl hl.1 rfl (lv_room (Nat.le_of_ble_eq_true rfl)) dL_law_1980 ⟨by show cells + 0 ≤ 601024; omega, by show slots + 0 ≤ 7293034; omega⟩) ?_
  refine lv_dstore (lv' := [(5, .double bb), (4, .int (nI (4 * t))), (3, .ref qo), (2, .ref (qm 0)), (1, .ref (q 0)), (0, .ref b)]) hx hb dL_law_1983 hl (by decide) rfl (fun ls hl => ?_)
  refine lv_aload_n hx hb dL_law_1985 rfl (lv_at hl 3 rfl) ?_
  refine lm_d (va_runV (As := []) (rest := []) ⟨hx, hb, hml, hown, hts⟩ (kX7_meanPrice l G qm M _ _ hM) (cwV 0 hts gL_law_X7_meanPrice rfl rfl rfl (by decide +kernel) ⟨Nat.le_of_ble_eq_true rfl, Nat.le_of_ble_eq_true rfl⟩) (wrV (lw_PM hP) (lw_DM hD) hK 8 0 rfl rfl) rfl rfl hl.1 rfl (lv_room (Nat.le_of_ble_eq_true rfl)) dL_law_1986 ⟨by show cells + 0 ≤ 601024; omega, by show slots + 0 ≤ 7293034; omega⟩) hP hD hS (fun H locs hP hD hS => ?_)
  have hP : va_P G.1 vwCl (LW G qm q qo M' C o) H := hP
  have hD : va_D (LA s) (LW G qm q qo M' C o) := hD
  refine lv_dstore (lv' := [(7, .double bb), (5, .double bb), (4, .int (nI (4 * t))), (3, .ref qo), (2, .ref (qm 0)), (1, .ref (q 0)), (0, .ref b)]) hx hb dL_law_1989 hl (by decide) rfl (fun ls hl => ?_)
  refine lv_dload hx hb dL_law_1991 (lv_at hl 1 rfl) ?_
  refine lv_dload hx hb dL_law_1993 (lv_at hl 0 rfl) ?_
  refine lv_dcmp hx hb dL_law_1995 ?_
  by_cases zc : Op.cmpValue (FP.dcmp bb bb) .l = 0
  · refine lv_if_eq (tgt := 2017) hx hb dL_law_1996 (by decide) (fun _ => ?_) (fun c_ => absurd zc c_)
    refine lv_goto (tgt := 2033) hx hb dL_law_2017 (by decide) ?_
    exact W.widen (k := cells + 60) (n := slots + 4000) (by omega) (by omega) (hN _ _ _ _ _ _ hI2 hP hD hS (lv_sub hl [2, 3, 4, 5, 6] rfl))
  · refine lv_if_eq (tgt := 2017) hx hb dL_law_1996 (by decide) (fun c_ => absurd c_ zc) (fun _ => ?_)
    refine lv_dload hx hb dL_law_1999 (lv_at hl 1 rfl) ?_
    refine lv_dload hx hb dL_law_2001 (lv_at hl 1 rfl) ?_
    refine lv_dcmp hx hb dL_law_2003 ?_
    refine lv_if_eq (tgt := 2015) hx hb dL_law_2004 (by decide) (fun c_ => absurd c_ zc) (fun _ => ?_)
    refine lv_dload hx hb dL_law_2007 (lv_at hl 0 rfl) ?_
    refine lv_dload hx hb dL_law_2009 (lv_at hl 0 rfl) ?_
    refine lv_dcmp hx hb dL_law_2011 ?_
    refine lv_if_ne (tgt := 2017) hx hb dL_law_2012 (by decide) (fun _ => ?_) (fun c_ => absurd c_ zc)
    refine lv_goto (tgt := 2033) hx hb dL_law_2017 (by decide) ?_
    exact W.widen (k := cells + 60) (n := slots + 4000) (by omega) (by omega) (hN _ _ _ _ _ _ hI2 hP hD hS (lv_sub hl [2, 3, 4, 5, 6] rfl))
