theorem lset {D : Dt} {i o : Nat} {C : St} (hJ : JN D i o C) {k j : Nat} (hk : k < 24) (hj : j < 2 ^ D 0 0) : ∃ S, S < 2 ^ D 0 0 ∧ (if nI (k % 2) = 0 then nI j ||| 1 else nI j ||| 0) = nI S := by
  have n1 := hJ.1.1.n.1
  have h1 : 1 < 2 ^ D 0 0 := Nat.one_lt_two_pow (by omega)
  rcases (show k % 2 = 0 ∨ k % 2 = 1 by omega) with q | q
  · rw [q, if_pos (show nI 0 = 0 from rfl)]
    exact ⟨j ||| 1, Nat.or_lt_two_pow hj h1, nI_lor j 1⟩
  · rw [q, if_neg (show ¬ nI 1 = 0 by decide)]
    exact ⟨j, hj, Int32.or_zero⟩
set_option maxHeartbeats 4000000 in
set_option maxRecDepth 100000 in
theorem law_loop {p : Program} {l : Launch} {e : Env} {s : State} {m : MethodId} {below : List Frame} {meth : Method} {c : Code} {b L : Nat} {xs : Nat → Int32} {G : GT} {u : Nat → Nat} (hL : LE p l s m meth c b L xs G) : ∀ (d k : Nat), k + d = 24 → ∀ (C : St) (H : Heap) (locs : List Loc) (ls : Array Slot), JX 1 C → va_P G.1 vwCl (LW G u C) H → va_D (LA s) (LW G u C) → va_S (LA s) s.heap H locs → lv_has ls 6 [(3, .int (nI k)), (2, .ref (u 0)), (1, .ref (u 20)), (0, .ref b)] → W p l e room_1 s m #[.ref b] below meth c H locs (28 + 3 * k) (547 + 262 * k) (lw_Z below #[Value.ref b] s) (F0 m 20 ls []) := by
  obtain ⟨⟨hx, hb, hr, hts, hown, hml, hlocks⟩, hl0, hK, hE, hX, hbl, hL2⟩ := id hL
  have hbA : ¬ LA s b := la_no b hbl
  have hX : va_X b (L, xs).1 (L, xs).2 s s.heap := hX
  have hT : (L, xs).1 < 2 ^ 31 := show L < 2 ^ 31 by omega
  intro d
  induction d with
  | zero =>
    intro k hk C H locs ls hJ hP hD hS hl
    have hk : k = 24 := by omega
    subst hk
    obtain ⟨D, i, o, hJ, _⟩ := hJ
    refine lv_iload_n hx hb dL_law_20 rfl (lv_at hl 0 rfl) ?_
    refine lv_bipush (v := 24) hx hb dL_law_21 (by decide) ?_
    refine lv_icmp_ge (tgt := 112) hx hb dL_law_23 (by decide) (fun _ => ?_) (fun c_ => absurd (show (24 : Int32) ≤ nI 24 by decide) c_)
    exact law_end hL hJ.2.1.1.1 (lEnd hJ) hP hD hS hl
  | succ d ih =>
    intro k hk C H locs ls hJ hP hD hS hl
    obtain ⟨D, i, o, hJ, hm⟩ := hJ
    have n12 := hJ.1.1.n.2
    have hk24 : k < 24 := by omega
    have hp12 : 2 ^ D 0 0 ≤ 2 ^ 12 := Nat.pow_le_pow_right (by decide) n12
    have e0 : C.2 14 0 = nI (D 0 0) := hJ.2.1.1.1
    obtain ⟨j, hj, ej⟩ := lIn (T := (L, xs)) hT (show 30 + 6 * k + 5 < 2 ^ 31 by omega) (show 1 ≤ 2 ^ D 0 0 from Nat.one_le_two_pow) (show 2 ^ D 0 0 < 2 ^ 31 by omega)
    obtain ⟨S, hSl, eS⟩ := lset hJ hk24 hj
    obtain ⟨C', f1, D', i', o', hJ', hm'⟩ := lDone (T := (L, xs)) hJ hT (show 30 + 6 * k < 900 by omega)
    have hS' : S < 2 ^ D' 0 0 := Nat.lt_of_lt_of_le hSl (Nat.pow_le_pow_right (by decide) hm')
    obtain ⟨f2, f3⟩ := lConf hJ' hS'
    have f4 := lStates hJ'.1 hJ'.2.1
    refine lv_iload_n hx hb dL_law_20 rfl (lv_at hl 0 rfl) ?_
    refine lv_bipush (v := 24) hx hb dL_law_21 (by decide) ?_
    refine lv_icmp_ge (tgt := 112) hx hb dL_law_23 (by decide) (fun c_ => absurd c_ (nleN (a := 24) (by decide) (by omega) hk24)) (fun _ => ?_)
    refine lv_bipush (v := 30) hx hb dL_law_26 (by decide) ?_
    refine lv_bipush (v := 6) hx hb dL_law_28 (by decide) ?_
    refine lv_iload_n hx hb dL_law_30 rfl (lv_at hl 0 rfl) ?_
    refine lv_imul hx hb dL_law_31 ?_
    refine lv_iadd hx hb dL_law_32 ?_
    rw [show (30 : Int32) + 6 * nI k = nI (30 + 6 * k) from by rw [show (6 : Int32) * nI k = nI (6 * k) from pk_mul 6 k]; exact nI_add 30 _]
    refine lv_istore (lv' := [(4, .int (nI (30 + 6 * k))), (3, .int (nI k)), (2, .ref (u 0)), (1, .ref (u 20)), (0, .ref b)]) hx hb dL_law_33 hl (by decide) rfl (fun ls hl => ?_)
    refine lv_aload_n hx hb dL_law_35 rfl (lv_at hl 4 rfl) ?_
    refine lv_iload hx hb dL_law_36 (lv_at hl 0 rfl) ?_
    refine lv_iconst (v := 5) hx hb dL_law_38 (by decide) ?_
    refine lv_iadd hx hb dL_law_39 ?_
    rw [show nI (30 + 6 * k) + (5 : Int32) = nI (30 + 6 * k + 5) from nI_add _ 5]
    refine lv_iconst (v := 1) hx hb dL_law_40 (by decide) ?_
    refine lv_aload_n hx hb dL_law_41 rfl (lv_at hl 3 rfl) ?_
    refine lv_iconst (v := 0) hx hb dL_law_42 (by decide) ?_
    refine va_iald (D := G.1) hx hb hK.1 hP 20 0 rfl rfl (show ix 0 250 by decide) dL_law_43 ?_
    rw [show C.2 14 (0 : Int32).toNatClampNeg = nI (D 0 0) from e0]
    refine lv_ishl hx hb dL_law_44 ?_
    rw [shAll hJ.1.1]
    refine ro_i (va_runS (As := [.ref b, .int (nI (30 + 6 * k + 5)), .int (nI (2 ^ D 0 0))]) (rest := []) ⟨hx, hb, hml, hown, hts⟩ (kL_in l b (L, xs) (nI (30 + 6 * k + 5)) (nI (2 ^ D 0 0)) (nI j) ej) (va_cwS 3 hts gL_law_L_in rfl rfl rfl (by decide +kernel) ⟨Nat.le_of_ble_eq_true rfl, Nat.le_of_ble_eq_true rfl⟩) (scS hX hbl hbA hS) rfl rfl hl.1 rfl (lv_room (Nat.le_of_ble_eq_true rfl)) dL_law_45 ⟨by show 28 + 3 * k + 0 ≤ 600130; omega, by show 547 + 262 * k + 0 ≤ 7301080; omega⟩) ?_
    refine lv_iload_n hx hb dL_law_48 rfl (lv_at hl 1 rfl) ?_
    refine lv_iconst (v := 2) hx hb dL_law_49 (by decide) ?_
    refine lv_irem hx hb dL_law_50 (by decide) ?_
    rw [show nI k - nI k / 2 * 2 = nI (k % 2) from pk_rem (d := 2) (by omega) (by decide) (by decide)]
    refine (fun join : ∀ ls : Array Slot, lv_has ls 6 [(4, .int (nI (30 + 6 * k))), (3, .int (nI k)), (2, .ref (u 0)), (1, .ref (u 20)), (0, .ref b)] → W p l e room_1 s m #[.ref b] below meth c H locs (28 + 3 * k) (547 + 262 * k) (lw_Z below #[Value.ref b] s) (F0 m 60 ls [.int (nI S)]) => ?_) (fun ls hl => ?_)
    · refine lv_if_ne (tgt := 58) hx hb dL_law_51 (by decide) (fun c_ => ?_) (fun c_ => ?_)
      · rw [if_neg c_] at eS
        refine lv_iconst (v := 0) hx hb dL_law_58 (by decide) ?_
        refine lv_ior hx hb dL_law_59 ?_
        rw [eS]
        exact join _ hl
      · rw [if_pos c_] at eS
        refine lv_iconst (v := 1) hx hb dL_law_54 (by decide) ?_
        refine lv_goto (tgt := 59) hx hb dL_law_55 (by decide) ?_
        refine lv_ior hx hb dL_law_59 ?_
        rw [eS]
        exact join _ hl
    refine lv_istore (lv' := [(5, .int (nI S)), (4, .int (nI (30 + 6 * k))), (3, .int (nI k)), (2, .ref (u 0)), (1, .ref (u 20)), (0, .ref b)]) hx hb dL_law_60 hl (by decide) rfl (fun ls hl => ?_)
    refine lv_aload_n hx hb dL_law_62 rfl (lv_at hl 3 rfl) ?_
    refine lv_aload_n hx hb dL_law_63 rfl (lv_at hl 4 rfl) ?_
    refine lv_aload_n hx hb dL_law_64 rfl (lv_at hl 5 rfl) ?_
    refine lv_iload hx hb dL_law_65 (lv_at hl 1 rfl) ?_
    refine wg_i (Wd := LW G u) (va_runS (As := [.ref (u 0), .ref (u 20), .ref b, .int (nI (30 + 6 * k))]) (rest := []) ⟨hx, hb, hml, hown, hts⟩ (kL_isDone l hl0 G u b (L, xs) C _ (nI (30 + 6 * k)) (1, C') f1) (va_cwS 4 hts gL_law_L_isDone rfl rfl rfl (by decide +kernel) ⟨Nat.le_of_ble_eq_true rfl, Nat.le_of_ble_eq_true rfl⟩) (xsS hP hD hS hK lw_hA hE hX hbl hbA) rfl rfl hl.1 rfl (lv_room (Nat.le_of_ble_eq_true rfl)) dL_law_67 ⟨by show 28 + 3 * k + 2 ≤ 600130; omega, by show 547 + 262 * k + 256 ≤ 7301080; omega⟩) hD hS lw_hA (fun _ => rfl) (fun H locs hP hD hS => ?_)
    have hP : va_P G.1 vwCl (LW G u C') _ := hP
    have hD : va_D (LA s) (LW G u C') := hD
    refine lv_if_eq (tgt := 104) hx hb dL_law_70 (by decide) (fun c_ => absurd (show (1 : Int32) = 0 from c_) (by decide)) (fun _ => ?_)
    refine lv_aload_n hx hb dL_law_73 rfl (lv_at hl 3 rfl) ?_
    refine lv_aload_n hx hb dL_law_74 rfl (lv_at hl 4 rfl) ?_
    refine ro_i (va_runS (As := [.ref (u 0), .ref (u 20)]) (rest := []) ⟨hx, hb, hml, hown, hts⟩ (kL_areStates l G u C' 1 f4) (va_cwS 2 hts gL_law_L_areStates rfl rfl rfl (by decide +kernel) ⟨Nat.le_of_ble_eq_true rfl, Nat.le_of_ble_eq_true rfl⟩) (roS hP hK) rfl rfl hl.1 rfl (lv_room (Nat.le_of_ble_eq_true rfl)) dL_law_75 ⟨by show 28 + 3 * k + 2 + 0 ≤ 600130; omega, by show 547 + 262 * k + 256 + 0 ≤ 7301080; omega⟩) ?_
    refine lv_if_eq (tgt := 104) hx hb dL_law_78 (by decide) (fun c_ => absurd c_ (by decide)) (fun _ => ?_)
    refine lv_aload_n hx hb dL_law_81 rfl (lv_at hl 3 rfl) ?_
    refine lv_iload hx hb dL_law_82 (lv_at hl 0 rfl) ?_
    have hP : va_P G.1 vwCl ([] ++ (CW G u C' ++ (NL G u C'))) _ := hP
    have hD : va_D (LA s) ([] ++ (CW G u C' ++ (NL G u C'))) := hD
    refine wf_i (Wd := CW G u) [] (NL G u C') (vx_runSW (As := [.ref (u 0), .int (nI S)]) (rest := []) ⟨hx, hb, hml, hown, hts⟩ (kL_isConfiguration l hl0 G u C' _ (nI S) ((b2i (good D' S)), C') (f2)) (vx_cwSW 2 hts gL_law_L_isConfiguration rfl rfl rfl (by decide +kernel) ⟨Nat.le_of_ble_eq_true rfl, Nat.le_of_ble_eq_true rfl⟩) (xS (fr_mid [] (NL G u C') hP) (fr_midD [] (NL G u C') hD) hS hK lw_hA hE) rfl rfl hl.1 rfl (lv_room (Nat.le_of_ble_eq_true rfl)) dL_law_84 ⟨by show 28 + 3 * k + 2 + 1 ≤ 600130; omega, by show 547 + 262 * k + 256 + 6 ≤ 7301080; omega⟩) hP hD hS lw_hA (fun _ => rfl) (fun H locs hP hD hS => ?_)
    have hP : va_P G.1 vwCl (LW G u C') _ := hP
    have hD : va_D (LA s) (LW G u C') := hD
    refine lv_aload_n hx hb dL_law_87 rfl (lv_at hl 4 rfl) ?_
    refine lv_iload hx hb dL_law_88 (lv_at hl 0 rfl) ?_
    refine ro_i (va_runS (As := [.ref (u 20), .int (nI S)]) (rest := [.int (b2i (good D' S))]) ⟨hx, hb, hml, hown, hts⟩ (kL_isRight l G u C' (nI S) (b2i (good D' S)) f3) (va_cwS 2 hts gL_law_L_isRight rfl rfl rfl (by decide +kernel) ⟨Nat.le_of_ble_eq_true rfl, Nat.le_of_ble_eq_true rfl⟩) (roS (hP.sub (ws' := NW G u C') [20] rfl) hK) rfl rfl hl.1 rfl (lv_room (Nat.le_of_ble_eq_true rfl)) dL_law_90 ⟨by show 28 + 3 * k + 2 + 1 + 0 ≤ 600130; omega, by show 547 + 262 * k + 256 + 6 + 0 ≤ 7301080; omega⟩) ?_
    refine (fun nxt : ∀ ls : Array Slot, lv_has ls 6 [(5, .int (nI S)), (4, .int (nI (30 + 6 * k))), (3, .int (nI k)), (2, .ref (u 0)), (1, .ref (u 20)), (0, .ref b)] → W p l e room_1 s m #[.ref b] below meth c H locs (28 + 3 * k + 2 + 1) (547 + 262 * k + 256 + 6) (lw_Z below #[Value.ref b] s) (F0 m 106 ls []) => ?_) (fun ls hl => ?_)
    · show W p l e room_1 s m #[.ref b] below meth c H locs (28 + 3 * k + 2 + 1) (547 + 262 * k + 256 + 6) (lw_Z below #[Value.ref b] s) (F0 m 93 _ [.int (b2i (good D' S)), .int (b2i (good D' S))])
      cases good D' S with
      | false =>
        refine lv_if_eq (tgt := 100) hx hb dL_law_93 (by decide) (fun _ => ?_) (fun c_ => absurd (show b2i false = 0 from rfl) c_)
        refine lv_iconst (v := 0) hx hb dL_law_100 (by decide) ?_
        refine lv_icmp_eq (tgt := 106) hx hb dL_law_101 (by decide) (fun _ => ?_) (fun c_ => absurd (show b2i false = 0 from rfl) c_)
        exact nxt _ hl
      | true =>
        refine lv_if_eq (tgt := 100) hx hb dL_law_93 (by decide) (fun c_ => absurd c_ (by decide)) (fun _ => ?_)
        refine lv_iconst (v := 1) hx hb dL_law_96 (by decide) ?_
        refine lv_goto (tgt := 101) hx hb dL_law_97 (by decide) ?_
        refine lv_icmp_eq (tgt := 106) hx hb dL_law_101 (by decide) (fun _ => ?_) (fun c_ => absurd (show b2i true = 1 from rfl) c_)
        exact nxt _ hl
    refine lv_iinc (v := nI (k + 1)) (lv' := [(3, .int (nI (k + 1))), (5, .int (nI S)), (4, .int (nI (30 + 6 * k))), (2, .ref (u 0)), (1, .ref (u 20)), (0, .ref b)]) hx hb dL_law_106 hl (k := 2) rfl (nI_add k 1) (by decide) rfl (fun ls hl => ?_)
    refine lv_goto (tgt := 20) hx hb dL_law_109 (by decide) ?_
    refine W.widen (k := 28 + 3 * (k + 1)) (n := 547 + 262 * (k + 1)) (by omega) (by omega) ?_
    exact ih (k + 1) (by omega) C' H locs _ ⟨D', i', o', hJ', by omega⟩ hP hD hS (lv_sub hl [0, 3, 4, 5] rfl)
