section AddF
variable {D : Dt} {i o : Nat} {C M : St}
def afD (D : Dt) (p v : Nat) : Dt := fun x y => if x = 0 ∧ y = 0 then D 0 0 + 1 else if x = 1 ∧ y = D 0 0 then p else if x = 3 ∧ y = D 0 0 then 12 else if x = 10 ∧ y = D 0 0 then v else D x y
theorem af_row {p v x : Nat} (h0 : x ≠ 0) (h1 : x ≠ 1) (h3 : x ≠ 3) (h10 : x ≠ 10) : afD D p v x = D x := by
  funext y
  unfold afD
  rw [if_neg (by omega), if_neg (by omega), if_neg (by omega), if_neg (by omega)]
theorem af_00 {p v : Nat} : afD D p v 0 0 = D 0 0 + 1 := by unfold afD; rw [if_pos ⟨rfl, rfl⟩]
theorem af_0 {p v y : Nat} (h : y ≠ 0) : afD D p v 0 y = D 0 y := by
  unfold afD
  rw [if_neg (by omega), if_neg (by omega), if_neg (by omega), if_neg (by omega)]
theorem af_1 {p v y : Nat} : afD D p v 1 y = if y = D 0 0 then p else D 1 y := by
  unfold afD
  by_cases h : y = D 0 0
  · rw [if_neg (by omega), if_pos ⟨rfl, h⟩, if_pos h]
  · rw [if_neg (by omega), if_neg (fun q => h q.2), if_neg (by omega), if_neg (by omega), if_neg h]
theorem af_3 {p v y : Nat} : afD D p v 3 y = if y = D 0 0 then 12 else D 3 y := by
  unfold afD
  by_cases h : y = D 0 0
  · rw [if_neg (by omega), if_neg (by omega), if_pos ⟨rfl, h⟩, if_pos h]
  · rw [if_neg (by omega), if_neg (by omega), if_neg (fun q => h q.2), if_neg (by omega), if_neg h]
theorem af_10 {p v y : Nat} : afD D p v 10 y = if y = D 0 0 then v else D 10 y := by
  unfold afD
  by_cases h : y = D 0 0
  · rw [if_neg (by omega), if_neg (by omega), if_neg (by omega), if_pos ⟨rfl, h⟩, if_pos h]
  · rw [if_neg (by omega), if_neg (by omega), if_neg (by omega), if_neg (fun q => h q.2), if_neg h]
theorem af_kid {p v f c : Nat} (w : WF D) : kid (afD D p v) f c = (kid D f c || (decide (c = D 0 0) && decide (p = f))) := by
  have n1 := w.n.1
  unfold kid
  rw [af_00, af_1]
  by_cases h : c = D 0 0
  · rw [if_pos h, decide_eq_true h, decide_eq_false (show ¬ c < D 0 0 by omega), decide_eq_true (show c < D 0 0 + 1 by omega), decide_eq_true (show 1 ≤ c by omega)]; simp
  · rw [if_neg h, decide_eq_false h, show decide (c < D 0 0 + 1) = decide (c < D 0 0) from decide_eq_decide.mpr (by omega)]; simp
theorem af_kidM {p v f : Nat} (w : WF D) (hn : D 0 0 < 12) : kidM (afD D p v) f = if f = p then kidM D f ||| 2 ^ D 0 0 else kidM D f := by
  refine Nat.eq_of_testBit_eq fun j => ?_
  rw [kidM_tb, af_kid w]
  by_cases h : f = p
  · rw [if_pos h, Nat.testBit_or, kidM_tb, tb_pow, decide_eq_true h.symm]
    by_cases g : j = D 0 0
    · rw [decide_eq_true g, decide_eq_true g.symm, decide_eq_true (show j < 12 by omega)]; simp
    · rw [decide_eq_false g, decide_eq_false (show ¬ D 0 0 = j by omega)]; simp
  · rw [if_neg h, kidM_tb, decide_eq_false (show ¬ p = f by omega)]; simp
theorem af_wf (w : WF D) {p v : Nat} (hn : D 0 0 < 12) (hp : p < D 0 0) (hv : v ≤ 999) : WF (afD D p v) := by
  obtain ⟨⟨w1, w2, w3, w4⟩, w5, w6, w7, w8, w9, w10, w11⟩ := w
  refine ⟨⟨?_, ?_, ?_, ?_⟩, ?_, ?_, ?_, ?_, ?_, ?_, ?_⟩
  · rw [af_00]; omega
  · rw [af_00]; omega
  · rw [af_0 (by decide)]; exact w3
  · rw [af_0 (by decide)]; exact w4
  · rw [af_00]
    intro f h1 h2
    rw [af_1]
    by_cases h : f = D 0 0
    · rw [if_pos h]; omega
    · rw [if_neg h]; exact w5 f h1 (by omega)
  · rw [af_row (x := 2) (by decide) (by decide) (by decide) (by decide), af_row (x := 4) (by decide) (by decide) (by decide) (by decide)]
    intro f hf
    obtain ⟨a1, a2, a3⟩ := w6 f hf
    refine ⟨a1, ?_, a3⟩
    rw [af_3]; split
    · decide
    · exact a2
  · rw [af_00, af_row (x := 2) (by decide) (by decide) (by decide) (by decide), af_row (x := 4) (by decide) (by decide) (by decide) (by decide)]
    exact fun f h1 h2 => w7 f (by omega) h2
  · rw [af_00, af_0 (by decide), af_row (x := 5) (by decide) (by decide) (by decide) (by decide), af_row (x := 6) (by decide) (by decide) (by decide) (by decide), af_row (x := 7) (by decide) (by decide) (by decide) (by decide), af_row (x := 8) (by decide) (by decide) (by decide) (by decide), af_row (x := 9) (by decide) (by decide) (by decide) (by decide)]
    intro r hr
    obtain ⟨a1, a2, a3, a4, a5⟩ := w8 r hr
    exact ⟨a1, by omega, by omega, by omega, a5⟩
  · rw [af_00]
    intro f hf
    rw [af_10]
    by_cases h : f = D 0 0
    · rw [if_pos h]; exact hv
    · rw [if_neg h]; exact w9 f (by omega)
  · rw [af_10, if_neg (by omega)]; exact w10
  · rw [af_0 (by decide), af_00, af_row (x := 11) (by decide) (by decide) (by decide) (by decide), af_row (x := 12) (by decide) (by decide) (by decide) (by decide), af_row (x := 13) (by decide) (by decide) (by decide) (by decide), af_row (x := 14) (by decide) (by decide) (by decide) (by decide)]
    intro k hk
    obtain ⟨a1, a2, a3, a4, a5⟩ := w11 k hk
    exact ⟨a1, a2, fun q => by have := a3 q; omega, a4, a5⟩
theorem af_good (w : WF D) {p v S : Nat} (hn : D 0 0 < 12) (hS : S < 2 ^ D 0 0) (h : good D S = true) : good (afD D p v) S = true := by
  unfold good at h ⊢
  rw [Bool.and_eq_true] at h ⊢
  obtain ⟨h1, h2⟩ := h
  have hb : ∀ j, D 0 0 ≤ j → S.testBit j = false := fun j hj => tb_lt hS hj
  constructor
  · obtain ⟨t0, t1⟩ := treeOk_iff.mp h1
    refine treeOk_iff.mpr ⟨t0, fun f hf hs => ?_⟩
    have hfn : f < D 0 0 := by
      rcases Nat.lt_or_ge f (D 0 0) with q | q
      · exact q
      · rw [hb f q] at hs; cases hs
    obtain ⟨b1, b2, b3, b4⟩ := okAt_iff.mp (t1 f hfn hs)
    have ke : kids (afD D p v) f S = kids D f S := by
      unfold kids
      refine ct_cong fun c hc => ?_
      rw [af_kid w]
      by_cases q : c = D 0 0
      · rw [hb c (by omega), Bool.and_false, Bool.and_false]
      · rw [decide_eq_false q]; simp
    refine okAt_iff.mpr ⟨?_, fun c hc hk hm => ?_, ?_, ?_⟩
    · rw [af_1, if_neg (by omega)]; exact b1
    · rw [af_row (x := 4) (by decide) (by decide) (by decide) (by decide)] at hm
      rw [af_kid w] at hk
      by_cases q : c = D 0 0
      · have := (w.b (f := c) (by omega) hc).2
        omega
      · rw [decide_eq_false q, Bool.false_and, Bool.or_false] at hk
        exact b2 c hc hk hm
    · rw [ke, af_row (x := 2) (by decide) (by decide) (by decide) (by decide)]; exact b3
    · rw [ke, af_3, if_neg (by omega)]; exact b4
  · unfold rulesOk rok at h2 ⊢
    rw [af_0 (by decide), af_row (x := 5) (by decide) (by decide) (by decide) (by decide), af_row (x := 6) (by decide) (by decide) (by decide) (by decide), af_row (x := 7) (by decide) (by decide) (by decide) (by decide), af_row (x := 8) (by decide) (by decide) (by decide) (by decide), af_row (x := 9) (by decide) (by decide) (by decide) (by decide)]
    exact h2
theorem af_RelC (hC : RelC D i o C) (w : WF D) {p v : Nat} (hn : D 0 0 < 12) (hp : p < D 0 0) : RelC (afD D p v) i o (sA (sS (sA (sA (sA C 0 (D 0 0) (nI p)) 1 p (nI (kidM D p ||| 2 ^ D 0 0))) 3 (D 0 0) 12) 3 (nI (D 0 0 + 1))) 7 (D 0 0) (nI v)) := by
  have n1 := w.n.1
  obtain ⟨⟨r1, r2, r3, r4, r5, r6, r7⟩, ⟨p1, p2, p3, p4, p5⟩, q1, q2, q3⟩ := hC
  have row : ∀ x, x ≠ 0 → x ≠ 1 → x ≠ 3 → x ≠ 7 → (sA (sS (sA (sA (sA C 0 (D 0 0) (nI p)) 1 p (nI (kidM D p ||| 2 ^ D 0 0))) 3 (D 0 0) 12) 3 (nI (D 0 0 + 1))) 7 (D 0 0) (nI v)).2 x = C.2 x := fun x h0 h1 h3 h7 => by
    rw [sA_ne h7]
    show (sA (sA (sA C 0 (D 0 0) (nI p)) 1 p (nI (kidM D p ||| 2 ^ D 0 0))) 3 (D 0 0) 12).2 x = C.2 x
    rw [sA_ne h3, sA_ne h1, sA_ne h0]
  have row0 : (sA (sS (sA (sA (sA C 0 (D 0 0) (nI p)) 1 p (nI (kidM D p ||| 2 ^ D 0 0))) 3 (D 0 0) 12) 3 (nI (D 0 0 + 1))) 7 (D 0 0) (nI v)).2 0 = upd (C.2 0) (D 0 0) (nI p) := by
    rw [sA_ne (by decide)]
    show (sA (sA (sA C 0 (D 0 0) (nI p)) 1 p (nI (kidM D p ||| 2 ^ D 0 0))) 3 (D 0 0) 12).2 0 = _
    rw [sA_ne (by decide), sA_ne (by decide), sA_eq]
  have row1 : (sA (sS (sA (sA (sA C 0 (D 0 0) (nI p)) 1 p (nI (kidM D p ||| 2 ^ D 0 0))) 3 (D 0 0) 12) 3 (nI (D 0 0 + 1))) 7 (D 0 0) (nI v)).2 1 = upd (C.2 1) p (nI (kidM D p ||| 2 ^ D 0 0)) := by
    rw [sA_ne (by decide)]
    show (sA (sA (sA C 0 (D 0 0) (nI p)) 1 p (nI (kidM D p ||| 2 ^ D 0 0))) 3 (D 0 0) 12).2 1 = _
    rw [sA_ne (by decide), sA_eq, sA_ne (by decide)]
  have row3 : (sA (sS (sA (sA (sA C 0 (D 0 0) (nI p)) 1 p (nI (kidM D p ||| 2 ^ D 0 0))) 3 (D 0 0) 12) 3 (nI (D 0 0 + 1))) 7 (D 0 0) (nI v)).2 3 = upd (C.2 3) (D 0 0) 12 := by
    rw [sA_ne (by decide)]
    show (sA (sA (sA C 0 (D 0 0) (nI p)) 1 p (nI (kidM D p ||| 2 ^ D 0 0))) 3 (D 0 0) 12).2 3 = _
    rw [sA_eq, sA_ne (by decide), sA_ne (by decide)]
  have row7 : (sA (sS (sA (sA (sA C 0 (D 0 0) (nI p)) 1 p (nI (kidM D p ||| 2 ^ D 0 0))) 3 (D 0 0) 12) 3 (nI (D 0 0 + 1))) 7 (D 0 0) (nI v)).2 7 = upd (C.2 7) (D 0 0) (nI v) := by
    rw [sA_eq]
    show upd ((sA (sA (sA C 0 (D 0 0) (nI p)) 1 p (nI (kidM D p ||| 2 ^ D 0 0))) 3 (D 0 0) 12).2 7) (D 0 0) (nI v) = _
    rw [sA_ne (by decide), sA_ne (by decide), sA_ne (by decide)]
  have sc : ∀ x, x ≠ 3 → (sA (sS (sA (sA (sA C 0 (D 0 0) (nI p)) 1 p (nI (kidM D p ||| 2 ^ D 0 0))) 3 (D 0 0) 12) 3 (nI (D 0 0 + 1))) 7 (D 0 0) (nI v)).1 x = C.1 x := fun x hx => sS_ne (C := sA (sA (sA C 0 (D 0 0) (nI p)) 1 p (nI (kidM D p ||| 2 ^ D 0 0))) 3 (D 0 0) 12) (v := nI (D 0 0 + 1)) hx
  have us : ∀ (g : Nat → Int32) (k : Nat) (v : Int32), upd g k v k = v := fun g k v => if_pos rfl
  have un : ∀ (g : Nat → Int32) (k : Nat) (v : Int32) (j : Nat), j ≠ k → upd g k v j = g j := fun g k v j h => if_neg h
  refine ⟨⟨?_, ?_, ?_, ?_, ?_, ?_, ?_⟩, ⟨?_, ?_, ?_, ?_, ?_⟩, ?_, ?_, ?_⟩
  · rw [sc 0 (by decide)]; exact r1
  · rw [sc 1 (by decide)]; exact r2
  · rw [sc 2 (by decide), mandM_cong (af_row (by decide) (by decide) (by decide) (by decide))]; exact r3
  · show (sS (sA (sA (sA C 0 (D 0 0) (nI p)) 1 p (nI (kidM D p ||| 2 ^ D 0 0))) 3 (D 0 0) 12) 3 (nI (D 0 0 + 1))).1 3 = _
    rw [sS_eq, af_00]
  · rw [sc 4 (by decide), forceM_cong (af_row (by decide) (by decide) (by decide) (by decide)) (af_0 (by decide))]; exact r5
  · rw [sc 5 (by decide), af_0 (by decide)]; exact r6
  · rw [sc 6 (by decide), af_0 (by decide)]; exact r7
  · rw [row0, un _ _ _ _ (by omega)]; exact p1
  · rw [row0, af_00]
    intro f h1 h2
    rw [af_1]
    by_cases h : f = D 0 0
    · rw [if_pos h, h, us]
    · rw [if_neg h, un _ _ _ _ h]; exact p2 f h1 (by omega)
  · rw [row1]
    intro f hf
    rw [af_kidM w hn]
    by_cases h : f = p
    · rw [if_pos h, h, us]
    · rw [if_neg h, un _ _ _ _ h]; exact p3 f hf
  · rw [row 2 (by decide) (by decide) (by decide) (by decide), af_row (x := 2) (by decide) (by decide) (by decide) (by decide)]; exact p4
  · rw [row3, af_00]
    intro f hf
    rw [af_3]
    by_cases h : f = D 0 0
    · rw [if_pos h, h, us]; rfl
    · rw [if_neg h, un _ _ _ _ h]; exact p5 f (by omega)
  · rw [row 4 (by decide) (by decide) (by decide) (by decide), row 5 (by decide) (by decide) (by decide) (by decide), row 6 (by decide) (by decide) (by decide) (by decide), af_0 (by decide)]
    intro k hk
    have e : wantM (afD D p v) k = wantM D k ∧ unwM (afD D p v) k = unwM D k ∧ lastM (afD D p v) k = lastM D k := by
      unfold wantM unwM lastM
      rw [af_row (x := 5) (by decide) (by decide) (by decide) (by decide), af_row (x := 6) (by decide) (by decide) (by decide) (by decide), af_row (x := 7) (by decide) (by decide) (by decide) (by decide), af_row (x := 8) (by decide) (by decide) (by decide) (by decide)]
      exact ⟨rfl, rfl, rfl⟩
    rw [e.1, e.2.1, e.2.2]; exact q1 k hk
  · rw [row7]
    intro f hf
    rw [af_10]
    by_cases h : f = D 0 0
    · rw [if_pos h, h, us]
    · rw [if_neg h, un _ _ _ _ h]; exact q2 f hf
  · rw [row 8 (by decide) (by decide) (by decide) (by decide), row 9 (by decide) (by decide) (by decide) (by decide), row 10 (by decide) (by decide) (by decide) (by decide), af_0 (by decide), af_row (x := 11) (by decide) (by decide) (by decide) (by decide), af_row (x := 14) (by decide) (by decide) (by decide) (by decide)]
    intro k hk
    have e : detM (afD D p v) k = detM D k := by
      unfold detM
      rw [af_row (x := 11) (by decide) (by decide) (by decide) (by decide), af_row (x := 12) (by decide) (by decide) (by decide) (by decide), af_row (x := 13) (by decide) (by decide) (by decide) (by decide)]
    rw [e]; exact q3 k hk
theorem af_RelM (hM : RelM D i o M) (w : WF D) {p v : Nat} : RelM (afD D p v) i o (sS (sA (sA (sA M 0 (D 0 0) (nI p)) 1 (D 0 0) (nI v)) 3 (D 0 0) 12) 0 (nI (D 0 0 + 1))) := by
  have n1 := w.n.1
  obtain ⟨⟨r1, r2, r3, r4, r5⟩, ⟨p1, p2, p3, p4, p5, p6⟩, q1, q2⟩ := hM
  have row : ∀ x, x ≠ 0 → x ≠ 1 → x ≠ 3 → (sS (sA (sA (sA M 0 (D 0 0) (nI p)) 1 (D 0 0) (nI v)) 3 (D 0 0) 12) 0 (nI (D 0 0 + 1))).2 x = M.2 x := fun x h0 h1 h3 => by
    show (sA (sA (sA M 0 (D 0 0) (nI p)) 1 (D 0 0) (nI v)) 3 (D 0 0) 12).2 x = _
    rw [sA_ne h3, sA_ne h1, sA_ne h0]
  have row0 : (sS (sA (sA (sA M 0 (D 0 0) (nI p)) 1 (D 0 0) (nI v)) 3 (D 0 0) 12) 0 (nI (D 0 0 + 1))).2 0 = upd (M.2 0) (D 0 0) (nI p) := by
    show (sA (sA (sA M 0 (D 0 0) (nI p)) 1 (D 0 0) (nI v)) 3 (D 0 0) 12).2 0 = _
    rw [sA_ne (by decide), sA_ne (by decide), sA_eq]
  have row1 : (sS (sA (sA (sA M 0 (D 0 0) (nI p)) 1 (D 0 0) (nI v)) 3 (D 0 0) 12) 0 (nI (D 0 0 + 1))).2 1 = upd (M.2 1) (D 0 0) (nI v) := by
    show (sA (sA (sA M 0 (D 0 0) (nI p)) 1 (D 0 0) (nI v)) 3 (D 0 0) 12).2 1 = _
    rw [sA_ne (by decide), sA_eq, sA_ne (by decide)]
  have row3 : (sS (sA (sA (sA M 0 (D 0 0) (nI p)) 1 (D 0 0) (nI v)) 3 (D 0 0) 12) 0 (nI (D 0 0 + 1))).2 3 = upd (M.2 3) (D 0 0) 12 := by
    show (sA (sA (sA M 0 (D 0 0) (nI p)) 1 (D 0 0) (nI v)) 3 (D 0 0) 12).2 3 = _
    rw [sA_eq, sA_ne (by decide), sA_ne (by decide)]
  have sc : ∀ x, x ≠ 0 → (sS (sA (sA (sA M 0 (D 0 0) (nI p)) 1 (D 0 0) (nI v)) 3 (D 0 0) 12) 0 (nI (D 0 0 + 1))).1 x = M.1 x := fun x hx => sS_ne hx
  have us : ∀ (g : Nat → Int32) (k : Nat) (v : Int32), upd g k v k = v := fun g k v => if_pos rfl
  have un : ∀ (g : Nat → Int32) (k : Nat) (v : Int32) (j : Nat), j ≠ k → upd g k v j = g j := fun g k v j h => if_neg h
  refine ⟨⟨?_, ?_, ?_, ?_, ?_⟩, ⟨?_, ?_, ?_, ?_, ?_, ?_⟩, ?_, ?_⟩
  · rw [sS_eq, af_00]
  · rw [sc 1 (by decide), af_0 (by decide)]; exact r2
  · rw [sc 2 (by decide), af_0 (by decide)]; exact r3
  · rw [sc 3 (by decide)]; exact r4
  · rw [sc 4 (by decide)]; exact r5
  · rw [row0, un _ _ _ _ (by omega)]; exact p1
  · rw [row0, af_00]
    intro f h1 h2
    rw [af_1]
    by_cases h : f = D 0 0
    · rw [if_pos h, h, us]
    · rw [if_neg h, un _ _ _ _ h]; exact p2 f h1 (by omega)
  · rw [row1, af_00]
    intro f hf
    rw [af_10]
    by_cases h : f = D 0 0
    · rw [if_pos h, h, us]
    · rw [if_neg h, un _ _ _ _ h]; exact p3 f (by omega)
  · rw [row 2 (by decide) (by decide) (by decide), af_row (x := 2) (by decide) (by decide) (by decide) (by decide)]; exact p4
  · rw [row3, af_00]
    intro f hf
    rw [af_3]
    by_cases h : f = D 0 0
    · rw [if_pos h, h, us]; rfl
    · rw [if_neg h, un _ _ _ _ h]; exact p5 f (by omega)
  · rw [row 4 (by decide) (by decide) (by decide), af_row (x := 4) (by decide) (by decide) (by decide) (by decide)]; exact p6
  · rw [row 5 (by decide) (by decide) (by decide), row 6 (by decide) (by decide) (by decide), row 9 (by decide) (by decide) (by decide), row 10 (by decide) (by decide) (by decide), row 11 (by decide) (by decide) (by decide), af_0 (by decide), af_row (x := 5) (by decide) (by decide) (by decide) (by decide), af_row (x := 6) (by decide) (by decide) (by decide) (by decide), af_row (x := 7) (by decide) (by decide) (by decide) (by decide), af_row (x := 8) (by decide) (by decide) (by decide) (by decide), af_row (x := 9) (by decide) (by decide) (by decide) (by decide)]; exact q1
  · rw [row 7 (by decide) (by decide) (by decide), row 12 (by decide) (by decide) (by decide), row 13 (by decide) (by decide) (by decide), row 14 (by decide) (by decide) (by decide), af_0 (by decide), af_row (x := 11) (by decide) (by decide) (by decide) (by decide), af_row (x := 12) (by decide) (by decide) (by decide) (by decide), af_row (x := 13) (by decide) (by decide) (by decide) (by decide), af_row (x := 14) (by decide) (by decide) (by decide) (by decide)]; exact q2
theorem aAddF (hI : InvD D i o C M) (x z : Int32) : Agr cdAB (pX6_addFeature C x z) (pX7_addFeature M x z) := by
  have hI0 := hI
  obtain ⟨w, ⟨hi, ho⟩, hex, hC, hM⟩ := hI
  obtain ⟨n1, n2⟩ := w.n
  have h1 := hM.thr 0
  rcases feat w x with ⟨p, hp, rfl, f1, f2⟩ | ⟨f1, f2⟩
  · unfold pX6_addFeature pX7_addFeature pX6_addFeature_16
    rw [tb_t (f1 C i o hC), bd_t (f2 M i o hM), bd_t (mT0 M 1), if_pos rfl]
    unfold pX7_addFeature_30
    rcases amt z 999 (by decide) with ⟨v, hv, rfl, z1, z2, z3⟩ | ⟨z1, z2⟩
    · have z3' : nI v ≤ 999 := z3
      rw [if_neg z2, if_pos z3', bd_t (show pX7_isIn (sS M 7 0) (nI v) 0 999 = _ from z1 _), if_neg (show ¬ (1 : Int32) = 0 by decide), bd_t (mT0 (sS M 7 0) 2), if_pos rfl, hC.n]
      have h2 := h1.thr 0
      have e12 : ((sS (sS M 7 0) 7 0).1 0 = 12) ↔ ¬ D 0 0 < 12 := by
        rw [h2.n]
        exact (nI_eq (b := 12) (by omega) (by decide)).trans (by omega)
      unfold pX7_addFeature_52
      by_cases hn : D 0 0 < 12
      · have h3 := h2.thr 0
        have hR := af_RelC hC w (v := v) hn hp
        have hQ := af_RelM h3 w (p := p) (v := v)
        have t7 : (sS (sS (sS M 7 0) 7 0) 7 0).1 7 = 0 := sS_eq
        rw [if_pos (show nI (D 0 0) < 12 from nltI (b := 12) (by omega) (by decide) hn), if_neg (show ¬ (sS (sS M 7 0) 7 0).1 0 = 12 from fun q => (e12.mp q) hn), bd_t (mT0 _ 3), if_pos rfl]
        generalize sS (sS (sS M 7 0) 7 0) 7 0 = N at h3 hQ t7 ⊢
        have ck : ∀ u, (sA C 0 (D 0 0) u).2 1 p = nI (kidM D p) := fun u => by rw [sA_ne (by decide)]; exact hC.k (by omega)
        have cn : ∀ (a b c : Nat) (u q t : Int32) (x y s : Nat), (sA (sA (sA C a x u) b y q) c s t).1 3 = nI (D 0 0) := fun _ _ _ _ _ _ _ _ _ => hC.n
        have m1 : ∀ (a : Nat) (u : Int32), (sA N a (D 0 0) u).1 0 = nI (D 0 0) := fun _ _ => h3.n
        have m2 : ∀ (a b : Nat) (u q : Int32), (sA (sA N a (D 0 0) u) b (D 0 0) q).1 0 = nI (D 0 0) := fun _ _ _ _ => h3.n
        have m3 : ∀ (a b c : Nat) (u q t : Int32), (sA (sA (sA N a (D 0 0) u) b (D 0 0) q) c (D 0 0) t).1 0 = nI (D 0 0) := fun _ _ _ _ _ _ => h3.n
        unfold pX5_grow pX2_setFirst
        simp only [ltv, hC.n, h3.n, gd_ix hn, gd_ix (show p < 12 by omega), nI_clp (show D 0 0 < 2 ^ 31 by omega), nI_clp (show p < 2 ^ 31 by omega), ck, cn, nI_sh (D 0 0) (show D 0 0 < 31 by omega), nI_lor, nI_1, m1, m2, m3, show ∀ (T : St) (v : Int32), (sS T 0 v).1 0 = v from fun _ _ => sS_eq]
        rw [bd_t rfl]
        simp only [gd_ix hn, nI_clp (show D 0 0 < 2 ^ 31 by omega)]
        rw [bd_t rfl, show nI (D 0 0 + 1) - 1 = nI (D 0 0) from (pk_sub (a := D 0 0 + 1) (b := 1) (by omega)).trans (by rw [Nat.add_sub_cancel])]
        obtain ⟨S, s1, s2⟩ := hex
        obtain ⟨a1, a2, a3⟩ := cmpl_iff.mp s2
        have e00 : afD D p v 0 0 = D 0 0 + 1 := af_00
        have up : ∀ y, y < 2 ^ D 0 0 → y < 2 ^ afD D p v 0 0 := fun y hy => by rw [e00]; exact lt_succ_pow hy
        exact ⟨_, _, _, rfl, ⟨afD D p v, i, o, af_wf w hn hp hv, ⟨up i hi, up o ho⟩, ⟨S, up S s1, cmpl_iff.mpr ⟨a1, a2, af_good w hn s1 a3⟩⟩, hR, hQ⟩, Or.inr ⟨rfl, by rw [sS_ne (by decide)]; exact t7⟩⟩
      · rw [if_neg (show ¬ nI (D 0 0) < 12 from nltN (b := 12) (by omega) (by decide) (by omega)), if_pos (show (sS (sS M 7 0) 7 0).1 0 = 12 from e12.mpr hn), bd_t (mT1 _ 3), if_neg (show ¬ (1 : Int32) = 0 by decide)]
        exact ⟨_, _, _, rfl, (hI0.m (h2.thr 3)).inv, Or.inl ⟨3, rfl, by decide, sS_eq⟩⟩
    · rw [bd_t (show pX7_isIn (sS M 7 0) z 0 999 = _ from z1 _), if_pos rfl, bd_t (mT1 (sS M 7 0) 2), if_neg (show ¬ (1 : Int32) = 0 by decide)]
      have e : ∀ q : Option ((Nat × St) ⊕ (Int32 × St)), (if z < 0 then some (.inl (2, C)) else if z ≤ 999 then q else some (.inl (2, C))) = some ((.inl (2, C)) : (Nat × St) ⊕ (Int32 × St)) := fun q => by
        rcases z2 with z2 | ⟨z2, z3⟩
        · rw [if_pos z2]
        · rw [if_neg z2, if_neg (show ¬ z ≤ 999 from z3)]
      rw [e]
      exact ⟨_, _, _, rfl, (hI0.m (h1.thr 2)).inv, Or.inl ⟨2, rfl, by decide, sS_eq⟩⟩
  · unfold pX6_addFeature pX7_addFeature
    rw [tb_e (f1 C i o hC), bd_t (f2 M i o hM), bd_t (mT1 M 1), if_neg (show ¬ (1 : Int32) = 0 by decide)]
    exact ⟨_, _, _, rfl, (hI0.m (hM.thr 1)).inv, Or.inl ⟨1, rfl, by decide, sS_eq⟩⟩
end AddF
