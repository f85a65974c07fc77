def LA (s : State) : Nat → Prop := fun q => s.heap.size ≤ q
theorem lw_hA {s : State} : ∀ q : Nat, s.heap.size ≤ q → LA s q := fun _ h => h
theorem nW_tbl : ∀ w ∈ nW, w ∈ lw_tbl := by
  unfold nW
  refine List.forall_mem_append.mpr ⟨mem_pl _ [548, 584, 608, 628, 650, 174, 179, 200, 689, 429, 441, 449, 275, 279, 349, 354, 384, 225, 206, 234, 220, 209, 213, 569, 563, 558, 561, 555, 595, 593, 635, 637, 568, 589, 556, 553, 565, 562, 559, 567, 78, 74, 76, 72, 144, 160, 240, 308, 58, 59, 60, 190, 301, 281, 12, 40, 282, 594, 592] (by decide +kernel), fun w h => wsL_law_in w (inlX3 w h)⟩
theorem xS_tbl : ∀ w ∈ xStr.map (fun k => Cond.stringRef RX6 k.1 k.2), w ∈ lw_tbl := mem_pl _ [151, 167, 247, 195, 315, 323, 402, 115, 339, 266, 340, 475, 274] (by decide +kernel)
def lw_nar : List Cond := flatC (Jvm.Cond.and given_1 narrow_1)
theorem xS_nar : ∀ k ∈ xStr, Cond.exactly (.string RX6 k.1) "java/lang/String" ∈ lw_nar := by decide +kernel
def exPr : List (Nat × Nat) := [(1, 2), (1, 3), (1, 4), (1, 5), (2, 1), (2, 3), (2, 4), (2, 5), (3, 1), (3, 2), (3, 4), (3, 5), (4, 1), (4, 2), (4, 3), (4, 5), (5, 1), (5, 2), (5, 3), (5, 4)]
theorem xN_p : ∀ w ∈ exPr.map (fun q : Nat × Nat => Cond.not (.castable (exN q.1) (exN q.2))), w ∈ lw_nar := mem_pl _ [22, 32, 42, 52, 12, 33, 43, 53, 13, 23, 44, 54, 14, 24, 34, 55, 15, 25, 35, 45] (by decide +kernel)
theorem xN_nar : ∀ q ∈ exPr, Cond.not (.castable (exN q.1) (exN q.2)) ∈ lw_nar := fun q hq => xN_p _ (List.mem_map.mpr ⟨q, hq, rfl⟩)
theorem st_nar : ∀ w ∈ ([.isRef (.static Bundle.tN "UNASSIGNED_STACK" Bundle.steD), .isRef (.static Bundle.tN "SUPPRESSED_SENTINEL" Bundle.listD)] : List Cond), w ∈ lw_nar := by decide +kernel
set_option maxRecDepth 100000 in
theorem law_CK {s : State} {b : Nat} (ht0 : ∀ w ∈ lw_tbl, w.before #[Value.ref b] s = true) : ∃ G : GT, CK G s := by
  have hts : ∀ w ∈ wsL_law, w.before #[Value.ref b] s = true := fun w h => ht0 w (wsL_law_in w h)
  obtain ⟨c0, i0, h0⟩ := u_known (C := RX0) (T := TX0) (N := 4) (n := 4) hts inlX0 (w_mem hts 29 rfl)
  obtain ⟨c1, i1, h1⟩ := u_known (C := RX1) (T := TX1) (N := 2) (n := 2) hts inlX1 (w_mem hts 33 rfl)
  obtain ⟨c2, i2, h2⟩ := u_known (C := RX2) (T := TX2) (N := 5) (n := 5) hts inlX2 (w_mem hts 25 rfl)
  obtain ⟨c3, i3, h3⟩ := u_known (C := RX3) (T := TX3) (N := 5) (n := 5) hts inlX3 (w_mem hts 21 rfl)
  obtain ⟨c4, i4, h4⟩ := u_known (C := RX5) (T := TX5) (N := 6) (n := 6) hts inlX5 (w_mem hts 17 rfl)
  obtain ⟨c5, i5, h5⟩ := u_known (C := RX6) (T := TX6) (N := 7) (n := 7) hts inlX6 (w_mem hts 8 rfl)
  obtain ⟨a0, k0, m0, f0, g0, e0⟩ := Cond.arrayClass_spec (args := #[Value.ref b]) (first := s) (o := none) (s := s) (idx := []) (type := .int) (w_mem hts 0 rfl)
  obtain ⟨a1, k1, m1, f1, g1, e1⟩ := Cond.arrayClass_spec (args := #[Value.ref b]) (first := s) (o := none) (s := s) (idx := []) (type := .char) (w_mem hts 60 rfl)
  refine ⟨((fun k => [c0, c1, c2, c3, c4, c5].getD k 0, fun k => [i0, i1, i2, i3, i4, i5].getD k i0), fun k => [a0, a1].getD k 0), ⟨fun k q hq => ?_, fun k q hq => ?_⟩, fun w hw => va_Nw.of (nest_tab (nW_ok w hw)) (ht0 w (nW_tbl w hw))⟩
  · match k, hq with
    | 0, hq => cases hq; exact h0
    | 1, hq => cases hq; exact h1
    | 2, hq => cases hq; exact h2
    | 3, hq => cases hq; exact h3
    | 4, hq => cases hq; exact h4
    | 5, hq => cases hq; exact h5
    | k + 6, hq => cases hq
  · match k, hq with
    | 0, hq => cases hq; exact ⟨fun n z => ⟨fun k h => (by cases h), k0, g0, m0, e0⟩, f0⟩
    | 1, hq => cases hq; exact ⟨fun n z => ⟨fun k h => (by cases h), k1, g1, m1, e1⟩, f1⟩
    | k + 2, hq => cases hq

theorem exPr_d : ∀ a, a < 6 → ∀ b, b < 6 → (a = 0 ∨ b = 0 ∨ a = b ∨ (a, b) ∈ exPr) := by decide
theorem exPr_m {a b : Nat} (ha : exK a) (hb : exK b) (h : a ≠ b) : (a, b) ∈ exPr := by
  obtain ⟨a1, a2⟩ := ha
  obtain ⟨b1, b2⟩ := hb
  rcases exPr_d a (by omega) b (by omega) with q | q | q | q
  · omega
  · omega
  · exact absurd q h
  · exact q
theorem la_no {s : State} : ∀ a : Nat, a < s.heap.size → ¬ LA s a := fun _ h => Nat.not_le_of_lt h
set_option maxRecDepth 100000 in
theorem law_XE {s : State} {b : Nat} (ht0 : ∀ w ∈ lw_tbl, w.before #[Value.ref b] s = true) (hg : ∀ w ∈ lw_nar, w.before #[Value.ref b] s = true) : XE (LA s) s := by
  refine ⟨vx_Zqof (w_mem ht0 99 rfl) (w_mem ht0 44 rfl) (hg _ (st_nar _ (List.mem_of_getElem? (i := 0) rfl))) la_no, vx_Zqof (w_mem ht0 101 rfl) (w_mem ht0 44 rfl) (hg _ (st_nar _ (List.mem_of_getElem? (i := 1) rfl))) la_no, fun k hk => ?_, fun a b ha hb hab => va_Nc.of (hg _ (xN_nar (a, b) (exPr_m ha hb hab)))⟩
  obtain ⟨sa, -, -, -, h1, -⟩ := Cond.exactly_spec (args := #[Value.ref b]) (first := s) (o := none) (s := s) (idx := []) (hg _ (xS_nar k hk))
  exact ⟨sa, vk_R.of (A := #[Value.ref b]) (ht0 _ (xS_tbl _ (List.mem_map.mpr ⟨k, hk, rfl⟩))) h1⟩
