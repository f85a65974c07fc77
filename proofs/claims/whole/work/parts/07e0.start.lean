theorem nW_tbl : ∀ w ∈ nW, w ∈ lw_tbl := by
  unfold nW
  refine List.forall_mem_append.mpr ⟨mem_pl _ [111, 149, 174, 197, 223, 607, 611, 553, 773, 329, 362, 428, 390, 422, 374, 382, 674, 678, 808, 284, 437, 288, 320, 445, 446, 409, 324, 394, 335, 354, 342, 336, 340, 132, 126, 121, 124, 118, 160, 158, 208, 210, 203, 205, 183, 230, 228, 131, 154, 119, 116, 128, 125, 122, 202, 207, 130, 491, 487, 489, 485, 577, 593, 634, 706, 568, 569, 570, 618, 699, 680, 43, 75, 681, 159, 157] (by decide +kernel), fun w h => wsL_law_in w (inlX3 w h)⟩
theorem xS_tbl : ∀ w ∈ xStr.map (fun k => Cond.stringRef RX6 k.1 k.2), w ∈ lw_tbl := mem_pl _ [584, 600, 641, 655, 713, 720, 747, 774, 782, 802, 819, 827, 835, 879, 526, 627, 667, 732, 794, 673, 807, 857] (by decide +kernel)
def lw_nar : List Cond := flatC (Jvm.Cond.and given_1 narrow_1)
theorem xS_nar : ∀ k ∈ xStr, Cond.exactly (.string RX6 k.1) "java/lang/String" ∈ lw_nar := by decide +kernel
def exPr : List (Nat × Nat) := [(1, 2), (1, 3), (1, 4), (1, 5), (2, 1), (2, 3), (2, 4), (2, 5), (3, 1), (3, 2), (3, 4), (3, 5), (4, 1), (4, 2), (4, 3), (4, 5), (5, 1), (5, 2), (5, 3), (5, 4)]
theorem nar_1 : ∀ w ∈ flatC narrow_1_1, w ∈ lw_nar := fun w h => List.mem_append_right _ (List.mem_append_left _ (List.mem_append_left _ h))
theorem nar_2 : ∀ w ∈ flatC narrow_1_2, w ∈ lw_nar := fun w h => List.mem_append_right _ (List.mem_append_left _ (List.mem_append_right _ h))
theorem nar_3 : ∀ w ∈ flatC narrow_1_3, w ∈ lw_nar := fun w h => List.mem_append_right _ (List.mem_append_right _ (List.mem_append_left _ h))
theorem nar_4 : ∀ w ∈ flatC narrow_1_4, w ∈ lw_nar := fun w h => List.mem_append_right _ (List.mem_append_right _ (List.mem_append_right _ h))
theorem xN_p_0 : ∀ w ∈ ([(1, 2), (1, 3), (1, 4), (1, 5), (2, 1), (2, 3), (2, 4), (2, 5), (3, 1), (3, 2), (3, 4), (3, 5), (4, 1), (4, 2), (4, 3), (4, 5), (5, 1), (5, 2), (5, 3), (5, 4)] : List _).map (fun q : Nat × Nat => Cond.not (.castable (exN q.1) (exN q.2))), w ∈ lw_nar := fun w h => nar_1 w (mem_pl _ [235, 248, 261, 274, 222, 249, 262, 275, 223, 236, 263, 276, 224, 237, 250, 277, 225, 238, 251, 264] (by decide +kernel) w h)
theorem xN_nar : ∀ q ∈ exPr, Cond.not (.castable (exN q.1) (exN q.2)) ∈ lw_nar := by
  intro q hq
  have h : q ∈ ([(1, 2), (1, 3), (1, 4), (1, 5), (2, 1), (2, 3), (2, 4), (2, 5), (3, 1), (3, 2), (3, 4), (3, 5), (4, 1), (4, 2), (4, 3), (4, 5), (5, 1), (5, 2), (5, 3), (5, 4)] : List (Nat × Nat)) := by
    revert q; decide
  exact xN_p_0 _ (List.mem_map.mpr ⟨q, h, rfl⟩)
theorem dO_p_0 : ∀ w ∈ ([0, 1, 2, 3, 4, 5, 6, 7, 8, 9, 10, 11, 12, 13, 14, 15, 16, 17, 18, 19, 20, 21, 22, 23, 24] : List _).map (fun j : Nat => Cond.eq (.elem (.static "java/lang/Integer" "DigitOnes" "[B") (.int (Int32.ofNat j))) (.int (nI (48 + j % 10)))), w ∈ lw_nar := fun w h => nar_1 w (mem_pl _ [12, 13, 14, 15, 16, 17, 18, 19, 20, 21, 22, 23, 24, 25, 26, 27, 28, 29, 30, 31, 32, 33, 34, 35, 36] (by decide +kernel) w h)
theorem dO_p_1 : ∀ w ∈ ([25, 26, 27, 28, 29, 30, 31, 32, 33, 34, 35, 36, 37, 38, 39, 40, 41, 42, 43, 44, 45, 46, 47, 48, 49] : List _).map (fun j : Nat => Cond.eq (.elem (.static "java/lang/Integer" "DigitOnes" "[B") (.int (Int32.ofNat j))) (.int (nI (48 + j % 10)))), w ∈ lw_nar := fun w h => nar_1 w (mem_pl _ [37, 38, 39, 40, 41, 42, 43, 44, 45, 46, 47, 48, 49, 50, 51, 52, 53, 54, 55, 56, 57, 58, 59, 60, 61] (by decide +kernel) w h)
theorem dO_p_2 : ∀ w ∈ ([50, 51, 52, 53, 54, 55, 56, 57, 58, 59, 60, 61, 62, 63, 64, 65, 66, 67, 68, 69, 70, 71, 72, 73, 74] : List _).map (fun j : Nat => Cond.eq (.elem (.static "java/lang/Integer" "DigitOnes" "[B") (.int (Int32.ofNat j))) (.int (nI (48 + j % 10)))), w ∈ lw_nar := fun w h => nar_1 w (mem_pl _ [62, 63, 64, 65, 66, 67, 68, 69, 70, 71, 72, 73, 74, 75, 76, 77, 78, 79, 80, 81, 82, 83, 84, 85, 86] (by decide +kernel) w h)
theorem dO_p_3 : ∀ w ∈ ([75, 76, 77, 78, 79, 80, 81, 82, 83, 84, 85, 86, 87, 88, 89, 90, 91, 92, 93, 94, 95, 96, 97, 98, 99] : List _).map (fun j : Nat => Cond.eq (.elem (.static "java/lang/Integer" "DigitOnes" "[B") (.int (Int32.ofNat j))) (.int (nI (48 + j % 10)))), w ∈ lw_nar := fun w h => nar_1 w (mem_pl _ [87, 88, 89, 90, 91, 92, 93, 94, 95, 96, 97, 98, 99, 100, 101, 102, 103, 104, 105, 106, 107, 108, 109, 110, 111] (by decide +kernel) w h)
theorem dO_nar : ∀ j, j < 100 → Cond.eq (.elem (.static "java/lang/Integer" "DigitOnes" "[B") (.int (Int32.ofNat j))) (.int (nI (48 + j % 10))) ∈ lw_nar := by
  intro j hj
  have h : j ∈ ([0, 1, 2, 3, 4, 5, 6, 7, 8, 9, 10, 11, 12, 13, 14, 15, 16, 17, 18, 19, 20, 21, 22, 23, 24] : List Nat) ∨ j ∈ ([25, 26, 27, 28, 29, 30, 31, 32, 33, 34, 35, 36, 37, 38, 39, 40, 41, 42, 43, 44, 45, 46, 47, 48, 49] : List Nat) ∨ j ∈ ([50, 51, 52, 53, 54, 55, 56, 57, 58, 59, 60, 61, 62, 63, 64, 65, 66, 67, 68, 69, 70, 71, 72, 73, 74] : List Nat) ∨ j ∈ ([75, 76, 77, 78, 79, 80, 81, 82, 83, 84, 85, 86, 87, 88, 89, 90, 91, 92, 93, 94, 95, 96, 97, 98, 99] : List Nat) := by
    revert j; decide
  rcases h with h | h | h | h
  · exact dO_p_0 _ (List.mem_map.mpr ⟨j, h, rfl⟩)
  · exact dO_p_1 _ (List.mem_map.mpr ⟨j, h, rfl⟩)
  · exact dO_p_2 _ (List.mem_map.mpr ⟨j, h, rfl⟩)
  · exact dO_p_3 _ (List.mem_map.mpr ⟨j, h, rfl⟩)
theorem dT_p_0 : ∀ w ∈ ([0, 1, 2, 3, 4, 5, 6, 7, 8, 9, 10, 11, 12, 13, 14, 15, 16, 17, 18, 19, 20, 21, 22, 23, 24] : List _).map (fun j : Nat => Cond.eq (.elem (.static "java/lang/Integer" "DigitTens" "[B") (.int (Int32.ofNat j))) (.int (nI (48 + j / 10)))), w ∈ lw_nar := fun w h => nar_1 w (mem_pl _ [115, 116, 117, 118, 119, 120, 121, 122, 123, 124, 125, 126, 127, 128, 129, 130, 131, 132, 133, 134, 135, 136, 137, 138, 139] (by decide +kernel) w h)
theorem dT_p_1 : ∀ w ∈ ([25, 26, 27, 28, 29, 30, 31, 32, 33, 34, 35, 36, 37, 38, 39, 40, 41, 42, 43, 44, 45, 46, 47, 48, 49] : List _).map (fun j : Nat => Cond.eq (.elem (.static "java/lang/Integer" "DigitTens" "[B") (.int (Int32.ofNat j))) (.int (nI (48 + j / 10)))), w ∈ lw_nar := fun w h => nar_1 w (mem_pl _ [140, 141, 142, 143, 144, 145, 146, 147, 148, 149, 150, 151, 152, 153, 154, 155, 156, 157, 158, 159, 160, 161, 162, 163, 164] (by decide +kernel) w h)
theorem dT_p_2 : ∀ w ∈ ([50, 51, 52, 53, 54, 55, 56, 57, 58, 59, 60, 61, 62, 63, 64, 65, 66, 67, 68, 69, 70, 71, 72, 73, 74] : List _).map (fun j : Nat => Cond.eq (.elem (.static "java/lang/Integer" "DigitTens" "[B") (.int (Int32.ofNat j))) (.int (nI (48 + j / 10)))), w ∈ lw_nar := fun w h => nar_1 w (mem_pl _ [165, 166, 167, 168, 169, 170, 171, 172, 173, 174, 175, 176, 177, 178, 179, 180, 181, 182, 183, 184, 185, 186, 187, 188, 189] (by decide +kernel) w h)
theorem dT_p_3 : ∀ w ∈ ([75, 76, 77, 78, 79, 80, 81, 82, 83, 84, 85, 86, 87, 88, 89, 90, 91, 92, 93, 94, 95, 96, 97, 98, 99] : List _).map (fun j : Nat => Cond.eq (.elem (.static "java/lang/Integer" "DigitTens" "[B") (.int (Int32.ofNat j))) (.int (nI (48 + j / 10)))), w ∈ lw_nar := fun w h => nar_1 w (mem_pl _ [190, 191, 192, 193, 194, 195, 196, 197, 198, 199, 200, 201, 202, 203, 204, 205, 206, 207, 208, 209, 210, 211, 212, 213, 214] (by decide +kernel) w h)
theorem dT_nar : ∀ j, j < 100 → Cond.eq (.elem (.static "java/lang/Integer" "DigitTens" "[B") (.int (Int32.ofNat j))) (.int (nI (48 + j / 10))) ∈ lw_nar := by
  intro j hj
  have h : j ∈ ([0, 1, 2, 3, 4, 5, 6, 7, 8, 9, 10, 11, 12, 13, 14, 15, 16, 17, 18, 19, 20, 21, 22, 23, 24] : List Nat) ∨ j ∈ ([25, 26, 27, 28, 29, 30, 31, 32, 33, 34, 35, 36, 37, 38, 39, 40, 41, 42, 43, 44, 45, 46, 47, 48, 49] : List Nat) ∨ j ∈ ([50, 51, 52, 53, 54, 55, 56, 57, 58, 59, 60, 61, 62, 63, 64, 65, 66, 67, 68, 69, 70, 71, 72, 73, 74] : List Nat) ∨ j ∈ ([75, 76, 77, 78, 79, 80, 81, 82, 83, 84, 85, 86, 87, 88, 89, 90, 91, 92, 93, 94, 95, 96, 97, 98, 99] : List Nat) := by
    revert j; decide
  rcases h with h | h | h | h
  · exact dT_p_0 _ (List.mem_map.mpr ⟨j, h, rfl⟩)
  · exact dT_p_1 _ (List.mem_map.mpr ⟨j, h, rfl⟩)
  · exact dT_p_2 _ (List.mem_map.mpr ⟨j, h, rfl⟩)
  · exact dT_p_3 _ (List.mem_map.mpr ⟨j, h, rfl⟩)
theorem st_nar : ∀ w ∈ ([.isRef (.static Bundle.tN "UNASSIGNED_STACK" Bundle.steD), .isRef (.static Bundle.tN "SUPPRESSED_SENTINEL" Bundle.listD), .eq (.static "java/lang/String" "COMPACT_STRINGS" "Z") (.int 1), .isRef (.static "jdk/internal/util/Preconditions" "SIOOBE_FORMATTER" "Ljava/util/function/BiFunction;"), .arrayOf (.static "java/lang/Integer" "DigitOnes" "[B") .byte, .arrayOf (.static "java/lang/Integer" "DigitTens" "[B") .byte, .eq (.length (.static "java/lang/Integer" "DigitOnes" "[B")) (.int 100), .eq (.length (.static "java/lang/Integer" "DigitTens" "[B")) (.int 100)] : List Cond), w ∈ lw_nar := by decide +kernel
set_option maxRecDepth 100000 in
theorem law_CK {s : State} {b : Nat} (ht0 : ∀ w ∈ lw_tbl, w.before #[Value.ref b] s = true) : ∃ G : GT, CK G s := by
  have hts : ∀ w ∈ wsL_law, w.before #[Value.ref b] s = true := fun w h => ht0 w (wsL_law_in w h)
  obtain ⟨c0, i0, h0⟩ := u_known (C := RJ0) (T := TJ0) (N := 4) (n := 4) hts inlJ0 (w_mem hts 921 rfl)
  obtain ⟨c1, i1, h1⟩ := u_known (C := RJ4) (T := TJ4) (N := 4) (n := 4) hts inlJ4 (w_mem hts 761 rfl)
  obtain ⟨c2, i2, h2⟩ := u_known (C := RX0) (T := TX0) (N := 4) (n := 4) hts inlX0 (w_mem hts 26 rfl)
  obtain ⟨c3, i3, h3⟩ := u_known (C := RX1) (T := TX1) (N := 2) (n := 2) hts inlX1 (w_mem hts 30 rfl)
  obtain ⟨c4, i4, h4⟩ := u_known (C := RX2) (T := TX2) (N := 5) (n := 5) hts inlX2 (w_mem hts 22 rfl)
  obtain ⟨c5, i5, h5⟩ := u_known (C := RX3) (T := TX3) (N := 5) (n := 5) hts inlX3 (w_mem hts 18 rfl)
  obtain ⟨c6, i6, h6⟩ := u_known (C := RX5) (T := TX5) (N := 6) (n := 6) hts inlX5 (w_mem hts 14 rfl)
  obtain ⟨c7, i7, h7⟩ := u_known (C := RX6) (T := TX6) (N := 7) (n := 7) hts inlX6 (w_mem hts 1 rfl)
  obtain ⟨c8, i8, h8⟩ := u_known (C := RX7) (T := TX7) (N := 24) (n := 24) hts inlX7 (w_mem hts 4 rfl)
  obtain ⟨a0, k0, m0, f0, g0, e0⟩ := Cond.arrayClass_spec (args := #[Value.ref b]) (first := s) (o := none) (s := s) (idx := []) (type := .int) (w_mem hts 36 rfl)
  obtain ⟨a1, k1, m1, f1, g1, e1⟩ := Cond.arrayClass_spec (args := #[Value.ref b]) (first := s) (o := none) (s := s) (idx := []) (type := .char) (w_mem hts 58 rfl)
  obtain ⟨a2, k2, m2, f2, g2, e2⟩ := Cond.arrayClass_spec (args := #[Value.ref b]) (first := s) (o := none) (s := s) (idx := []) (type := .boolean) (w_mem hts 73 rfl)
  obtain ⟨a3, k3, m3, f3, g3, e3⟩ := Cond.arrayClass_spec (args := #[Value.ref b]) (first := s) (o := none) (s := s) (idx := []) (type := .long) (w_mem hts 6 rfl)
  obtain ⟨a4, k4, m4, f4, g4, e4⟩ := Cond.arrayClass_spec (args := #[Value.ref b]) (first := s) (o := none) (s := s) (idx := []) (type := .byte) (w_mem hts 772 rfl)
  refine ⟨((fun k => [c0, c1, c2, c3, c4, c5, c6, c7, c8].getD k 0, fun k => [i0, i1, i2, i3, i4, i5, i6, i7, i8].getD k i0), fun k => [a0, a1, a2, a3, a4].getD k 0), ⟨fun k q hq => ?_, fun k q hq => ?_⟩, fun w hw => va_Nw.of (nest_tab (nW_ok w hw)) (ht0 w (nW_tbl w hw))⟩
  · match k, hq with
    | 0, hq => cases hq; exact h0
    | 1, hq => cases hq; exact h1
    | 2, hq => cases hq; exact h2
    | 3, hq => cases hq; exact h3
    | 4, hq => cases hq; exact h4
    | 5, hq => cases hq; exact h5
    | 6, hq => cases hq; exact h6
    | 7, hq => cases hq; exact h7
    | 8, hq => cases hq; exact h8
    | k + 9, hq => cases hq
  · match k, hq with
    | 0, hq => cases hq; exact ⟨fun n z => ⟨fun k h => (by cases h), k0, g0, m0, e0⟩, f0⟩
    | 1, hq => cases hq; exact ⟨fun n z => ⟨fun k h => (by cases h), k1, g1, m1, e1⟩, f1⟩
    | 2, hq => cases hq; exact ⟨fun n z => ⟨fun k h => (by cases h), k2, g2, m2, e2⟩, f2⟩
    | 3, hq => cases hq; exact ⟨fun n z => ⟨fun k h => (by cases h), k3, g3, m3, e3⟩, f3⟩
    | 4, hq => cases hq; exact ⟨fun n z => ⟨fun k h => (by cases h), k4, g4, m4, e4⟩, f4⟩
    | k + 5, hq => cases hq

theorem exPr_d : ∀ a, a < 6 → ∀ b, b < 6 → (a = 0 ∨ b = 0 ∨ a = b ∨ (a, b) ∈ exPr) := by decide
theorem exPr_m {a b : Nat} (ha : exK a) (hb : exK b) (h : a ≠ b) : (a, b) ∈ exPr := by
  obtain ⟨a1, a2⟩ := ha
  obtain ⟨b1, b2⟩ := hb
  rcases exPr_d a (by omega) b (by omega) with q | q | q | q
  · omega
  · omega
  · exact absurd q h
  · exact q
theorem la_no {s : State} : ∀ a : Nat, a < s.heap.size → ¬ LA s a := fun _ h => Nat.not_le_of_lt h
set_option maxRecDepth 100000 in
theorem law_XE {s : State} {b : Nat} (ht0 : ∀ w ∈ lw_tbl, w.before #[Value.ref b] s = true) (hg : ∀ w ∈ lw_nar, w.before #[Value.ref b] s = true) : XE (LA s) s := by
  refine ⟨vx_Zqof (w_mem ht0 510 rfl) (w_mem ht0 80 rfl) (hg _ (st_nar _ (List.mem_of_getElem? (i := 0) rfl))) la_no, vx_Zqof (w_mem ht0 512 rfl) (w_mem ht0 80 rfl) (hg _ (st_nar _ (List.mem_of_getElem? (i := 1) rfl))) la_no, fun k hk => ?_, fun a b ha hb hab => va_Nc.of (hg _ (xN_nar (a, b) (exPr_m ha hb hab)))⟩
  obtain ⟨sa, -, -, -, h1, -⟩ := Cond.exactly_spec (args := #[Value.ref b]) (first := s) (o := none) (s := s) (idx := []) (hg _ (xS_nar k hk))
  exact ⟨sa, vk_R.of (A := #[Value.ref b]) (ht0 _ (xS_tbl _ (List.mem_map.mpr ⟨k, hk, rfl⟩))) h1⟩

set_option maxRecDepth 100000 in
theorem law_ZS {s : State} {b : Nat} (ht0 : ∀ w ∈ lw_tbl, w.before #[Value.ref b] s = true) (hg : ∀ w ∈ lw_nar, w.before #[Value.ref b] s = true) : ZS (LA s) s s.heap := by
  obtain ⟨t1, e1, y1⟩ := va_Tof (N := 100) (f := dgO) (A := LA s) (by decide) (hg _ (st_nar _ (List.mem_of_getElem? (i := 4) rfl))) (va_eqt (hg _ (st_nar _ (List.mem_of_getElem? (i := 6) rfl)))) (fun j hj => va_eqt (hg _ (dO_nar j hj))) la_no
  obtain ⟨t2, e2, y2⟩ := va_Tof (N := 100) (f := dgT) (A := LA s) (by decide) (hg _ (st_nar _ (List.mem_of_getElem? (i := 5) rfl))) (va_eqt (hg _ (st_nar _ (List.mem_of_getElem? (i := 7) rfl)))) (fun j hj => va_eqt (hg _ (dT_nar j hj))) la_no
  exact ⟨va_Zof (w_mem ht0 1205 rfl) (w_mem ht0 94 rfl) (va_eqi (hg _ (st_nar _ (List.mem_of_getElem? (i := 2) rfl)))) la_no, ⟨t1, va_Zref (w_mem ht0 1333 rfl) (w_mem ht0 88 rfl) e1 la_no, y1⟩, ⟨t2, va_Zref (w_mem ht0 1335 rfl) (w_mem ht0 88 rfl) e2 la_no, y2⟩, va_Zqof (w_mem ht0 1294 rfl) (w_mem ht0 100 rfl) (hg _ (st_nar _ (List.mem_of_getElem? (i := 3) rfl))) la_no, va_Nw.of rfl (w_mem ht0 1258 rfl)⟩

