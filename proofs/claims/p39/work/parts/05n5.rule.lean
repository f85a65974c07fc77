section AddR
variable {D : Dt} {i o : Nat} {C M : St}
def ruD (D : Dt) (kd a b c : Nat) : Dt := fun x y => if x = 0 ∧ y = 1 then D 0 1 + 1 else if x = 5 ∧ y = D 0 1 then kd else if x = 6 ∧ y = D 0 1 then a else if x = 7 ∧ y = D 0 1 then b else if x = 8 ∧ y = D 0 1 then c else if x = 9 ∧ y = D 0 1 then 0 else D x y
theorem ru_row {kd a b c x : Nat} (h0 : x ≠ 0) (h5 : x < 5 ∨ 9 < x) : ruD D kd a b c x = D x := by
  funext y
  unfold ruD
  rw [if_neg (by omega), if_neg (by omega), if_neg (by omega), if_neg (by omega), if_neg (by omega), if_neg (by omega)]
theorem ru_01 {kd a b c : Nat} : ruD D kd a b c 0 1 = D 0 1 + 1 := by unfold ruD; rw [if_pos ⟨rfl, rfl⟩]
theorem ru_0 {kd a b c y : Nat} (h : y ≠ 1) : ruD D kd a b c 0 y = D 0 y := by
  unfold ruD
  rw [if_neg (by omega), if_neg (by omega), if_neg (by omega), if_neg (by omega), if_neg (by omega), if_neg (by omega)]
theorem ru_old {kd a b c x y : Nat} (h0 : x ≠ 0) (h : y ≠ D 0 1) : ruD D kd a b c x y = D x y := by
  unfold ruD
  rw [if_neg (by omega), if_neg (by omega), if_neg (by omega), if_neg (by omega), if_neg (by omega), if_neg (by omega)]
theorem ru_new {kd a b c : Nat} : ruD D kd a b c 5 (D 0 1) = kd ∧ ruD D kd a b c 6 (D 0 1) = a ∧ ruD D kd a b c 7 (D 0 1) = b ∧ ruD D kd a b c 8 (D 0 1) = c ∧ ruD D kd a b c 9 (D 0 1) = 0 := by
  refine ⟨?_, ?_, ?_, ?_, ?_⟩ <;> unfold ruD <;> simp
theorem ru_force {kd a b c : Nat} : forceM (ruD D kd a b c) = forceM D ||| 2 ^ D 0 1 := by
  refine Nat.eq_of_testBit_eq fun j => ?_
  unfold forceM
  rw [mkb_tb, Nat.testBit_or, mkb_tb, tb_pow, ru_01]
  by_cases h : j = D 0 1
  · rw [h, ru_new.2.2.2.2, decide_eq_true (show D 0 1 < D 0 1 + 1 by omega)]; simp
  · rw [ru_old (by decide) h, decide_eq_false (show ¬ D 0 1 = j by omega), show decide (j < D 0 1 + 1) = decide (j < D 0 1) from decide_eq_decide.mpr (by omega)]; simp
theorem ru_wf (w : WF D) {kd a b c : Nat} (hr : D 0 1 < 20) (hk : kd ≤ 2) (ha : a < D 0 0) (hb : b < D 0 0) (hc : c < D 0 0) (h1 : kd ≠ 2 → c = a) (h2 : a ≠ b) (h3 : kd = 2 → a ≠ c ∧ b ≠ c) : WF (ruD D kd a b c) := by
  obtain ⟨⟨w1, w2, w3, w4⟩, w5, w6, w7, w8, w9, w10, w11⟩ := w
  refine ⟨⟨?_, ?_, ?_, ?_⟩, ?_, ?_, ?_, ?_, ?_, ?_, ?_⟩
  · rw [ru_0 (by decide)]; exact w1
  · rw [ru_0 (by decide)]; exact w2
  · rw [ru_01]; omega
  · rw [ru_0 (by decide)]; exact w4
  · rw [ru_0 (by decide), ru_row (x := 1) (by decide) (by decide)]; exact w5
  · rw [ru_row (x := 2) (by decide) (by decide), ru_row (x := 3) (by decide) (by decide), ru_row (x := 4) (by decide) (by decide)]; exact w6
  · rw [ru_0 (by decide), ru_row (x := 2) (by decide) (by decide), ru_row (x := 4) (by decide) (by decide)]; exact w7
  · rw [ru_01, ru_0 (by decide)]
    intro r hr
    by_cases h : r = D 0 1
    · obtain ⟨n5, n6, n7, n8, n9⟩ := ru_new (D := D) (kd := kd) (a := a) (b := b) (c := c)
      rw [h, n5, n6, n7, n8, n9]
      exact ⟨hk, ha, hb, hc, by decide, h1, h2, h3⟩
    · rw [ru_old (by decide) h, ru_old (by decide) h, ru_old (by decide) h, ru_old (by decide) h, ru_old (by decide) h]
      exact w8 r (by omega)
  · rw [ru_0 (by decide), ru_row (x := 10) (by decide) (by decide)]; exact w9
  · rw [ru_row (x := 10) (by decide) (by decide)]; exact w10
  · rw [ru_0 (by decide), ru_0 (by decide), ru_row (x := 11) (by decide) (by decide), ru_row (x := 12) (by decide) (by decide), ru_row (x := 13) (by decide) (by decide), ru_row (x := 14) (by decide) (by decide)]; exact w11
theorem ru_RelC (hC : RelC D i o C) {kd a b c : Nat} (x y z : Int32) (hx : x = nI (if kd = 0 then 2 ^ b else if kd = 1 then 0 else 2 ^ a ||| 2 ^ b ||| 2 ^ c)) (hy : y = nI (if kd = 0 then 2 ^ a else if kd = 1 then 2 ^ a ||| 2 ^ b else 0)) (hz : z = nI (if kd = 2 then max a (max b c) else max a b)) : RelC (ruD D kd a b c) i o (sS (sS (sA (sA (sA C 4 (D 0 1) x) 5 (D 0 1) y) 6 (D 0 1) z) 4 (nI (forceM D ||| 2 ^ D 0 1))) 5 (nI (D 0 1 + 1))) := by
  obtain ⟨⟨r1, r2, r3, r4, r5, r6, r7⟩, ⟨p1, p2, p3, p4, p5⟩, q1, q2, q3⟩ := hC
  have row : ∀ k, k ≠ 4 → k ≠ 5 → k ≠ 6 → (sS (sS (sA (sA (sA C 4 (D 0 1) x) 5 (D 0 1) y) 6 (D 0 1) z) 4 (nI (forceM D ||| 2 ^ D 0 1))) 5 (nI (D 0 1 + 1))).2 k = C.2 k := fun k h4 h5 h6 => by
    show (sA (sA (sA C 4 (D 0 1) x) 5 (D 0 1) y) 6 (D 0 1) z).2 k = _
    rw [sA_ne h6, sA_ne h5, sA_ne h4]
  have sc : ∀ k, k ≠ 4 → k ≠ 5 → (sS (sS (sA (sA (sA C 4 (D 0 1) x) 5 (D 0 1) y) 6 (D 0 1) z) 4 (nI (forceM D ||| 2 ^ D 0 1))) 5 (nI (D 0 1 + 1))).1 k = C.1 k := fun k h4 h5 => by
    rw [sS_ne h5, sS_ne h4]; rfl
  have us : ∀ (g : Nat → Int32) (k : Nat) (v : Int32), upd g k v k = v := fun g k v => if_pos rfl
  have un : ∀ (g : Nat → Int32) (k : Nat) (v : Int32) (j : Nat), j ≠ k → upd g k v j = g j := fun g k v j h => if_neg h
  refine ⟨⟨?_, ?_, ?_, ?_, ?_, ?_, ?_⟩, ⟨?_, ?_, ?_, ?_, ?_⟩, ?_, ?_, ?_⟩
  · rw [sc 0 (by decide) (by decide)]; exact r1
  · rw [sc 1 (by decide) (by decide)]; exact r2
  · rw [sc 2 (by decide) (by decide), mandM_cong (ru_row (by decide) (by decide))]; exact r3
  · rw [sc 3 (by decide) (by decide), ru_0 (by decide)]; exact r4
  · rw [sS_ne (by decide), sS_eq, ru_force]
  · rw [sS_eq, ru_01]
  · rw [sc 6 (by decide) (by decide), ru_0 (by decide)]; exact r7
  · rw [row 0 (by decide) (by decide) (by decide)]; exact p1
  · rw [row 0 (by decide) (by decide) (by decide), ru_0 (by decide), ru_row (x := 1) (by decide) (by decide)]; exact p2
  · rw [row 1 (by decide) (by decide) (by decide)]
    intro f hf
    rw [kidM_cong (ru_row (by decide) (by decide)) (ru_0 (by decide))]; exact p3 f hf
  · rw [row 2 (by decide) (by decide) (by decide), ru_row (x := 2) (by decide) (by decide)]; exact p4
  · rw [row 3 (by decide) (by decide) (by decide), ru_0 (by decide), ru_row (x := 3) (by decide) (by decide)]; exact p5
  · rw [ru_01]
    intro r hr
    have e4 : (sS (sS (sA (sA (sA C 4 (D 0 1) x) 5 (D 0 1) y) 6 (D 0 1) z) 4 (nI (forceM D ||| 2 ^ D 0 1))) 5 (nI (D 0 1 + 1))).2 4 = upd (C.2 4) (D 0 1) x := by
      show (sA (sA (sA C 4 (D 0 1) x) 5 (D 0 1) y) 6 (D 0 1) z).2 4 = _
      rw [sA_ne (by decide), sA_ne (by decide), sA_eq]
    have e5 : (sS (sS (sA (sA (sA C 4 (D 0 1) x) 5 (D 0 1) y) 6 (D 0 1) z) 4 (nI (forceM D ||| 2 ^ D 0 1))) 5 (nI (D 0 1 + 1))).2 5 = upd (C.2 5) (D 0 1) y := by
      show (sA (sA (sA C 4 (D 0 1) x) 5 (D 0 1) y) 6 (D 0 1) z).2 5 = _
      rw [sA_ne (by decide), sA_eq, sA_ne (by decide)]
    have e6 : (sS (sS (sA (sA (sA C 4 (D 0 1) x) 5 (D 0 1) y) 6 (D 0 1) z) 4 (nI (forceM D ||| 2 ^ D 0 1))) 5 (nI (D 0 1 + 1))).2 6 = upd (C.2 6) (D 0 1) z := by
      show (sA (sA (sA C 4 (D 0 1) x) 5 (D 0 1) y) 6 (D 0 1) z).2 6 = _
      rw [sA_eq, sA_ne (by decide), sA_ne (by decide)]
    rw [e4, e5, e6]
    unfold wantM unwM lastM
    by_cases h : r = D 0 1
    · obtain ⟨n5, n6, n7, n8, n9⟩ := ru_new (D := D) (kd := kd) (a := a) (b := b) (c := c)
      rw [h, us, us, us, n5, n6, n7, n8]
      exact ⟨hx, hy, hz⟩
    · rw [un _ _ _ _ h, un _ _ _ _ h, un _ _ _ _ h, ru_old (x := 5) (by decide) h, ru_old (x := 6) (by decide) h, ru_old (x := 7) (by decide) h, ru_old (x := 8) (by decide) h]
      exact q1 r (by omega)
  · rw [row 7 (by decide) (by decide) (by decide), ru_row (x := 10) (by decide) (by decide)]; exact q2
  · rw [row 8 (by decide) (by decide) (by decide), row 9 (by decide) (by decide) (by decide), row 10 (by decide) (by decide) (by decide), ru_0 (by decide), ru_row (x := 11) (by decide) (by decide), ru_row (x := 14) (by decide) (by decide)]
    intro k hk
    have e : detM (ruD D kd a b c) k = detM D k := by
      unfold detM
      rw [ru_row (x := 11) (by decide) (by decide), ru_row (x := 12) (by decide) (by decide), ru_row (x := 13) (by decide) (by decide)]
    rw [e]; exact q3 k hk
/-- the rule taken back: what lies above the count is not told -/
theorem ru_backC (hC : RelC D i o C) (x y z : Int32) (f r : Int32) (hf : f = nI (forceM D)) (hr : r = nI (D 0 1)) (u v : Int32) : RelC D i o (sS (sS (sS (sS (sA (sA (sA C 4 (D 0 1) x) 5 (D 0 1) y) 6 (D 0 1) z) 4 u) 5 v) 5 r) 4 f) := by
  obtain ⟨⟨r1, r2, r3, r4, r5, r6, r7⟩, ⟨p1, p2, p3, p4, p5⟩, q1, q2, q3⟩ := hC
  have row : ∀ k, k ≠ 4 → k ≠ 5 → k ≠ 6 → (sS (sS (sS (sS (sA (sA (sA C 4 (D 0 1) x) 5 (D 0 1) y) 6 (D 0 1) z) 4 u) 5 v) 5 r) 4 f).2 k = C.2 k := fun k h4 h5 h6 => by
    show (sA (sA (sA C 4 (D 0 1) x) 5 (D 0 1) y) 6 (D 0 1) z).2 k = _
    rw [sA_ne h6, sA_ne h5, sA_ne h4]
  have sc : ∀ k, k ≠ 4 → k ≠ 5 → (sS (sS (sS (sS (sA (sA (sA C 4 (D 0 1) x) 5 (D 0 1) y) 6 (D 0 1) z) 4 u) 5 v) 5 r) 4 f).1 k = C.1 k := fun k h4 h5 => by
    rw [sS_ne h4, sS_ne h5, sS_ne h5, sS_ne h4]; rfl
  have un : ∀ (g : Nat → Int32) (k : Nat) (v : Int32) (j : Nat), j ≠ k → upd g k v j = g j := fun g k v j h => if_neg h
  refine ⟨⟨?_, ?_, ?_, ?_, ?_, ?_, ?_⟩, ⟨?_, ?_, ?_, ?_, ?_⟩, ?_, ?_, ?_⟩
  · rw [sc 0 (by decide) (by decide)]; exact r1
  · rw [sc 1 (by decide) (by decide)]; exact r2
  · rw [sc 2 (by decide) (by decide)]; exact r3
  · rw [sc 3 (by decide) (by decide)]; exact r4
  · rw [sS_eq]; exact hf
  · rw [sS_ne (by decide), sS_eq]; exact hr
  · rw [sc 6 (by decide) (by decide)]; exact r7
  · rw [row 0 (by decide) (by decide) (by decide)]; exact p1
  · rw [row 0 (by decide) (by decide) (by decide)]; exact p2
  · rw [row 1 (by decide) (by decide) (by decide)]; exact p3
  · rw [row 2 (by decide) (by decide) (by decide)]; exact p4
  · rw [row 3 (by decide) (by decide) (by decide)]; exact p5
  · intro k hk
    have e4 : (sA (sA (sA C 4 (D 0 1) x) 5 (D 0 1) y) 6 (D 0 1) z).2 4 = upd (C.2 4) (D 0 1) x := by rw [sA_ne (by decide), sA_ne (by decide), sA_eq]
    have e5 : (sA (sA (sA C 4 (D 0 1) x) 5 (D 0 1) y) 6 (D 0 1) z).2 5 = upd (C.2 5) (D 0 1) y := by rw [sA_ne (by decide), sA_eq, sA_ne (by decide)]
    have e6 : (sA (sA (sA C 4 (D 0 1) x) 5 (D 0 1) y) 6 (D 0 1) z).2 6 = upd (C.2 6) (D 0 1) z := by rw [sA_eq, sA_ne (by decide), sA_ne (by decide)]
    show (sA (sA (sA C 4 (D 0 1) x) 5 (D 0 1) y) 6 (D 0 1) z).2 4 k = _ ∧ (sA (sA (sA C 4 (D 0 1) x) 5 (D 0 1) y) 6 (D 0 1) z).2 5 k = _ ∧ (sA (sA (sA C 4 (D 0 1) x) 5 (D 0 1) y) 6 (D 0 1) z).2 6 k = _
    rw [e4, e5, e6, un _ _ _ _ (by omega), un _ _ _ _ (by omega), un _ _ _ _ (by omega)]
    exact q1 k hk
  · rw [row 7 (by decide) (by decide) (by decide)]; exact q2
  · rw [row 8 (by decide) (by decide) (by decide), row 9 (by decide) (by decide) (by decide), row 10 (by decide) (by decide) (by decide)]; exact q3
theorem ru_RelM (hM : RelM D i o M) {kd a b c : Nat} : RelM (ruD D kd a b c) i o (sS (sA (sA (sA (sA (sA M 6 (D 0 1) (kch kd)) 9 (D 0 1) (nI a)) 10 (D 0 1) (nI b)) 11 (D 0 1) (nI c)) 5 (D 0 1) 0) 1 (nI (D 0 1 + 1))) := by
  obtain ⟨⟨r1, r2, r3, r4, r5⟩, ⟨p1, p2, p3, p4, p5, p6⟩, q1, q2⟩ := hM
  have row : ∀ k, k ≠ 5 → k ≠ 6 → k ≠ 9 → k ≠ 10 → k ≠ 11 → (sS (sA (sA (sA (sA (sA M 6 (D 0 1) (kch kd)) 9 (D 0 1) (nI a)) 10 (D 0 1) (nI b)) 11 (D 0 1) (nI c)) 5 (D 0 1) 0) 1 (nI (D 0 1 + 1))).2 k = M.2 k := fun k h5 h6 h9 h10 h11 => by
    show (sA (sA (sA (sA (sA M 6 (D 0 1) (kch kd)) 9 (D 0 1) (nI a)) 10 (D 0 1) (nI b)) 11 (D 0 1) (nI c)) 5 (D 0 1) 0).2 k = _
    rw [sA_ne h5, sA_ne h11, sA_ne h10, sA_ne h9, sA_ne h6]
  have sc : ∀ k, k ≠ 1 → (sS (sA (sA (sA (sA (sA M 6 (D 0 1) (kch kd)) 9 (D 0 1) (nI a)) 10 (D 0 1) (nI b)) 11 (D 0 1) (nI c)) 5 (D 0 1) 0) 1 (nI (D 0 1 + 1))).1 k = M.1 k := fun k h => sS_ne h
  have us : ∀ (g : Nat → Int32) (k : Nat) (v : Int32), upd g k v k = v := fun g k v => if_pos rfl
  have un : ∀ (g : Nat → Int32) (k : Nat) (v : Int32) (j : Nat), j ≠ k → upd g k v j = g j := fun g k v j h => if_neg h
  refine ⟨⟨?_, ?_, ?_, ?_, ?_⟩, ⟨?_, ?_, ?_, ?_, ?_, ?_⟩, ?_, ?_⟩
  · rw [sc 0 (by decide), ru_0 (by decide)]; exact r1
  · rw [sS_eq, ru_01]
  · rw [sc 2 (by decide), ru_0 (by decide)]; exact r3
  · rw [sc 3 (by decide)]; exact r4
  · rw [sc 4 (by decide)]; exact r5
  · rw [row 0 (by decide) (by decide) (by decide) (by decide) (by decide)]; exact p1
  · rw [row 0 (by decide) (by decide) (by decide) (by decide) (by decide), ru_0 (by decide), ru_row (x := 1) (by decide) (by decide)]; exact p2
  · rw [row 1 (by decide) (by decide) (by decide) (by decide) (by decide), ru_0 (by decide), ru_row (x := 10) (by decide) (by decide)]; exact p3
  · rw [row 2 (by decide) (by decide) (by decide) (by decide) (by decide), ru_row (x := 2) (by decide) (by decide)]; exact p4
  · rw [row 3 (by decide) (by decide) (by decide) (by decide) (by decide), ru_0 (by decide), ru_row (x := 3) (by decide) (by decide)]; exact p5
  · rw [row 4 (by decide) (by decide) (by decide) (by decide) (by decide), ru_row (x := 4) (by decide) (by decide)]; exact p6
  · rw [ru_01]
    intro r hr
    have e5 : (sS (sA (sA (sA (sA (sA M 6 (D 0 1) (kch kd)) 9 (D 0 1) (nI a)) 10 (D 0 1) (nI b)) 11 (D 0 1) (nI c)) 5 (D 0 1) 0) 1 (nI (D 0 1 + 1))).2 5 = upd (M.2 5) (D 0 1) 0 := by
      show (sA (sA (sA (sA (sA M 6 (D 0 1) (kch kd)) 9 (D 0 1) (nI a)) 10 (D 0 1) (nI b)) 11 (D 0 1) (nI c)) 5 (D 0 1) 0).2 5 = _
      rw [sA_eq, sA_ne (by decide), sA_ne (by decide), sA_ne (by decide), sA_ne (by decide)]
    have e6 : (sS (sA (sA (sA (sA (sA M 6 (D 0 1) (kch kd)) 9 (D 0 1) (nI a)) 10 (D 0 1) (nI b)) 11 (D 0 1) (nI c)) 5 (D 0 1) 0) 1 (nI (D 0 1 + 1))).2 6 = upd (M.2 6) (D 0 1) (kch kd) := by
      show (sA (sA (sA (sA (sA M 6 (D 0 1) (kch kd)) 9 (D 0 1) (nI a)) 10 (D 0 1) (nI b)) 11 (D 0 1) (nI c)) 5 (D 0 1) 0).2 6 = _
      rw [sA_ne (by decide), sA_ne (by decide), sA_ne (by decide), sA_ne (by decide), sA_eq]
    have e9 : (sS (sA (sA (sA (sA (sA M 6 (D 0 1) (kch kd)) 9 (D 0 1) (nI a)) 10 (D 0 1) (nI b)) 11 (D 0 1) (nI c)) 5 (D 0 1) 0) 1 (nI (D 0 1 + 1))).2 9 = upd (M.2 9) (D 0 1) (nI a) := by
      show (sA (sA (sA (sA (sA M 6 (D 0 1) (kch kd)) 9 (D 0 1) (nI a)) 10 (D 0 1) (nI b)) 11 (D 0 1) (nI c)) 5 (D 0 1) 0).2 9 = _
      rw [sA_ne (by decide), sA_ne (by decide), sA_ne (by decide), sA_eq, sA_ne (by decide)]
    have e10 : (sS (sA (sA (sA (sA (sA M 6 (D 0 1) (kch kd)) 9 (D 0 1) (nI a)) 10 (D 0 1) (nI b)) 11 (D 0 1) (nI c)) 5 (D 0 1) 0) 1 (nI (D 0 1 + 1))).2 10 = upd (M.2 10) (D 0 1) (nI b) := by
      show (sA (sA (sA (sA (sA M 6 (D 0 1) (kch kd)) 9 (D 0 1) (nI a)) 10 (D 0 1) (nI b)) 11 (D 0 1) (nI c)) 5 (D 0 1) 0).2 10 = _
      rw [sA_ne (by decide), sA_ne (by decide), sA_eq, sA_ne (by decide), sA_ne (by decide)]
    have e11 : (sS (sA (sA (sA (sA (sA M 6 (D 0 1) (kch kd)) 9 (D 0 1) (nI a)) 10 (D 0 1) (nI b)) 11 (D 0 1) (nI c)) 5 (D 0 1) 0) 1 (nI (D 0 1 + 1))).2 11 = upd (M.2 11) (D 0 1) (nI c) := by
      show (sA (sA (sA (sA (sA M 6 (D 0 1) (kch kd)) 9 (D 0 1) (nI a)) 10 (D 0 1) (nI b)) 11 (D 0 1) (nI c)) 5 (D 0 1) 0).2 11 = _
      rw [sA_ne (by decide), sA_eq, sA_ne (by decide), sA_ne (by decide), sA_ne (by decide)]
    rw [e5, e6, e9, e10, e11]
    by_cases h : r = D 0 1
    · obtain ⟨n5, n6, n7, n8, n9⟩ := ru_new (D := D) (kd := kd) (a := a) (b := b) (c := c)
      rw [h, us, us, us, us, us, n5, n6, n7, n8, n9]
      exact ⟨rfl, rfl, rfl, rfl, rfl⟩
    · rw [un _ _ _ _ h, un _ _ _ _ h, un _ _ _ _ h, un _ _ _ _ h, un _ _ _ _ h, ru_old (x := 5) (by decide) h, ru_old (x := 6) (by decide) h, ru_old (x := 7) (by decide) h, ru_old (x := 8) (by decide) h, ru_old (x := 9) (by decide) h]
      exact q1 r (by omega)
  · rw [row 7 (by decide) (by decide) (by decide) (by decide) (by decide), row 12 (by decide) (by decide) (by decide) (by decide) (by decide), row 13 (by decide) (by decide) (by decide) (by decide) (by decide), row 14 (by decide) (by decide) (by decide) (by decide) (by decide), ru_0 (by decide), ru_row (x := 11) (by decide) (by decide), ru_row (x := 12) (by decide) (by decide), ru_row (x := 13) (by decide) (by decide), ru_row (x := 14) (by decide) (by decide)]; exact q2
theorem ru_backM {kd a b c : Nat} {N : St} (hN : RelM (ruD D kd a b c) i o N) : RelM D i o (sS N 1 (nI (D 0 1))) := by
  obtain ⟨⟨r1, r2, r3, r4, r5⟩, ⟨p1, p2, p3, p4, p5, p6⟩, q1, q2⟩ := hN
  have e0 : ruD D kd a b c 0 0 = D 0 0 := ru_0 (by decide)
  rw [e0] at r1 p2 p3 p5
  rw [ru_0 (by decide)] at r3
  rw [ru_row (x := 1) (by decide) (by decide)] at p2
  rw [ru_row (x := 10) (by decide) (by decide)] at p3
  rw [ru_row (x := 2) (by decide) (by decide)] at p4
  rw [ru_row (x := 3) (by decide) (by decide)] at p5
  rw [ru_row (x := 4) (by decide) (by decide)] at p6
  rw [ru_01] at q1
  rw [ru_0 (by decide), ru_row (x := 11) (by decide) (by decide), ru_row (x := 12) (by decide) (by decide), ru_row (x := 13) (by decide) (by decide), ru_row (x := 14) (by decide) (by decide)] at q2
  refine ⟨⟨?_, sS_eq, ?_, ?_, ?_⟩, ⟨p1, p2, p3, p4, p5, p6⟩, fun r hr => ?_, q2⟩
  · rw [sS_ne (by decide)]; exact r1
  · rw [sS_ne (by decide)]; exact r3
  · rw [sS_ne (by decide)]; exact r4
  · rw [sS_ne (by decide)]; exact r5
  · have := q1 r (by omega)
    have h : r ≠ D 0 1 := by omega
    rw [ru_old (x := 5) (by decide) h, ru_old (x := 6) (by decide) h, ru_old (x := 7) (by decide) h, ru_old (x := 8) (by decide) h, ru_old (x := 9) (by decide) h] at this
    exact this
end AddR
