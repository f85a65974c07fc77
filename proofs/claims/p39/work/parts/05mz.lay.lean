/-! ===== a model changed at one place ===== -/
section Lay
variable {D : Dt} {i o : Nat} {C M : St}
theorem good_cong {D D' : Dt} (h0 : D' 0 0 = D 0 0) (h1 : D' 0 1 = D 0 1) (h : ∀ a, 1 ≤ a → a ≤ 9 → D' a = D a) (S : Nat) : good D' S = good D S := by
  have e1 := h 1 (by decide) (by decide)
  have e2 := h 2 (by decide) (by decide)
  have e3 := h 3 (by decide) (by decide)
  have e4 := h 4 (by decide) (by decide)
  have e5 := h 5 (by decide) (by decide)
  have e6 := h 6 (by decide) (by decide)
  have e7 := h 7 (by decide) (by decide)
  have e8 := h 8 (by decide) (by decide)
  have e9 := h 9 (by decide) (by decide)
  unfold good treeOk rulesOk okAt kids kid rok
  rw [h0, h1, e1, e2, e3, e4, e5, e6, e7, e8, e9]
theorem cmpl_cong {D D' : Dt} (h : ∀ S, good D' S = good D S) (i o S : Nat) : cmpl D' i o S = cmpl D i o S := by
  unfold cmpl; rw [h]
/-- one more layer -/
def lyD (D : Dt) (kd a b c : Nat) : Dt := fun x y => if x = 0 ∧ y = 2 then D 0 2 + 1 else if x = 11 ∧ y = D 0 2 then kd else if x = 12 ∧ y = D 0 2 then a else if x = 13 ∧ y = D 0 2 then b else if x = 14 ∧ y = D 0 2 then c else D x y
def unD (D : Dt) : Dt := fun x y => if x = 0 ∧ y = 2 then D 0 2 - 1 else D x y
theorem ly_row {kd a b c x : Nat} (h1 : 1 ≤ x) (h2 : x ≤ 10) : lyD D kd a b c x = D x := by
  funext y
  unfold lyD
  rw [if_neg (by omega), if_neg (by omega), if_neg (by omega), if_neg (by omega), if_neg (by omega)]
theorem ly_0 {kd a b c y : Nat} (h : y ≠ 2) : lyD D kd a b c 0 y = D 0 y := by
  unfold lyD
  rw [if_neg (by omega), if_neg (by omega), if_neg (by omega), if_neg (by omega), if_neg (by omega)]
theorem ly_2 {kd a b c : Nat} : lyD D kd a b c 0 2 = D 0 2 + 1 := by unfold lyD; rw [if_pos ⟨rfl, rfl⟩]
theorem ly_old {kd a b c x y : Nat} (h1 : 1 ≤ x) (h : y ≠ D 0 2) : lyD D kd a b c x y = D x y := by
  unfold lyD
  rw [if_neg (by omega), if_neg (by omega), if_neg (by omega), if_neg (by omega), if_neg (by omega)]
theorem ly_new {kd a b c : Nat} : lyD D kd a b c 11 (D 0 2) = kd ∧ lyD D kd a b c 12 (D 0 2) = a ∧ lyD D kd a b c 13 (D 0 2) = b ∧ lyD D kd a b c 14 (D 0 2) = c := by
  refine ⟨?_, ?_, ?_, ?_⟩ <;> unfold lyD <;> simp
theorem ly_good {kd a b c : Nat} (S : Nat) : good (lyD D kd a b c) S = good D S := good_cong (ly_0 (by decide)) (ly_0 (by decide)) (fun x h1 h2 => ly_row h1 (by omega)) S
theorem ly_wf (w : WF D) {kd a b c : Nat} (hk : D 0 2 < 6) (h1 : kd ≤ 2) (h2 : c ≤ 999) (h3 : kd = 0 → a < D 0 0 ∧ b < D 0 0) (h4 : kd = 1 → c ≤ 100) (h5 : kd = 2 → a ≤ 12) : WF (lyD D kd a b c) := by
  obtain ⟨⟨w1, w2, w3, w4⟩, w5, w6, w7, w8, w9, w10, w11⟩ := w
  refine ⟨⟨?_, ?_, ?_, ?_⟩, ?_, ?_, ?_, ?_, ?_, ?_, ?_⟩
  · rw [ly_0 (by decide)]; exact w1
  · rw [ly_0 (by decide)]; exact w2
  · rw [ly_0 (by decide)]; exact w3
  · rw [ly_2]; omega
  · rw [ly_0 (by decide), ly_row (by decide) (by decide)]; exact w5
  · rw [ly_row (by decide) (by decide), ly_row (by decide) (by decide), ly_row (by decide) (by decide)]; exact w6
  · rw [ly_0 (by decide), ly_row (by decide) (by decide), ly_row (by decide) (by decide)]; exact w7
  · rw [ly_0 (by decide), ly_0 (by decide), ly_row (by decide) (by decide), ly_row (by decide) (by decide), ly_row (by decide) (by decide), ly_row (by decide) (by decide), ly_row (by decide) (by decide)]; exact w8
  · rw [ly_0 (by decide), ly_row (by decide) (by decide)]; exact w9
  · rw [ly_row (by decide) (by decide)]; exact w10
  · rw [ly_2, ly_0 (by decide)]
    intro k hk
    by_cases q : k = D 0 2
    · obtain ⟨n1, n2, n3, n4⟩ := ly_new (D := D) (kd := kd) (a := a) (b := b) (c := c)
      rw [q, n1, n2, n3, n4]
      exact ⟨h1, h2, h3, h4, h5⟩
    · rw [ly_old (by decide) q, ly_old (by decide) q, ly_old (by decide) q, ly_old (by decide) q]
      exact w11 k (by omega)
theorem mandM_cong {D D' : Dt} (h : D' 4 = D 4) : mandM D' = mandM D := by unfold mandM; rw [h]
theorem forceM_cong {D D' : Dt} (h : D' 9 = D 9) (h1 : D' 0 1 = D 0 1) : forceM D' = forceM D := by unfold forceM; rw [h, h1]
theorem kidM_cong {D D' : Dt} (h : D' 1 = D 1) (h1 : D' 0 0 = D 0 0) (f : Nat) : kidM D' f = kidM D f := by unfold kidM kid; rw [h, h1]
theorem ly_RelC (hC : RelC D i o C) {kd a b c : Nat} (hk : D 0 2 < 6) (det : Int32) (hd : det = nI (if kd = 0 then 2 ^ a ||| 2 ^ b else if kd = 1 then 0 else a)) : RelC (lyD D kd a b c) i o (sS (sA (sA (sA C 8 (D 0 2) (nI kd)) 9 (D 0 2) det) 10 (D 0 2) (nI c)) 6 (nI (D 0 2 + 1))) := by
  obtain ⟨⟨r1, r2, r3, r4, r5, r6, r7⟩, ⟨p1, p2, p3, p4, p5⟩, q1, q2, q3⟩ := hC
  have row : ∀ x, x ≤ 7 → (sS (sA (sA (sA C 8 (D 0 2) (nI kd)) 9 (D 0 2) det) 10 (D 0 2) (nI c)) 6 (nI (D 0 2 + 1))).2 x = C.2 x := fun x hx => by
    show (sA (sA (sA C 8 (D 0 2) (nI kd)) 9 (D 0 2) det) 10 (D 0 2) (nI c)).2 x = C.2 x
    rw [sA_ne (by omega), sA_ne (by omega), sA_ne (by omega)]
  have sc : ∀ x, x ≠ 6 → (sS (sA (sA (sA C 8 (D 0 2) (nI kd)) 9 (D 0 2) det) 10 (D 0 2) (nI c)) 6 (nI (D 0 2 + 1))).1 x = C.1 x := fun x hx => sS_ne hx
  refine ⟨⟨?_, ?_, ?_, ?_, ?_, ?_, ?_⟩, ⟨?_, ?_, ?_, ?_, ?_⟩, ?_, ?_, ?_⟩
  · rw [sc 0 (by decide)]; exact r1
  · rw [sc 1 (by decide)]; exact r2
  · rw [sc 2 (by decide), mandM_cong (ly_row (by decide) (by decide))]; exact r3
  · rw [sc 3 (by decide), ly_0 (by decide)]; exact r4
  · rw [sc 4 (by decide), forceM_cong (ly_row (by decide) (by decide)) (ly_0 (by decide))]; exact r5
  · rw [sc 5 (by decide), ly_0 (by decide)]; exact r6
  · rw [sS_eq, ly_2]
  · rw [row 0 (by decide)]; exact p1
  · rw [row 0 (by decide), ly_0 (by decide), ly_row (by decide) (by decide)]; exact p2
  · rw [row 1 (by decide)]
    intro f hf
    rw [kidM_cong (ly_row (by decide) (by decide)) (ly_0 (by decide))]; exact p3 f hf
  · rw [row 2 (by decide), ly_row (by decide) (by decide)]; exact p4
  · rw [row 3 (by decide), ly_0 (by decide), ly_row (by decide) (by decide)]; exact p5
  · rw [row 4 (by decide), row 5 (by decide), row 6 (by decide), ly_0 (by decide)]
    intro r hr
    have e : wantM (lyD D kd a b c) r = wantM D r ∧ unwM (lyD D kd a b c) r = unwM D r ∧ lastM (lyD D kd a b c) r = lastM D r := by
      unfold wantM unwM lastM
      rw [ly_row (x := 5) (by decide) (by decide), ly_row (x := 6) (by decide) (by decide), ly_row (x := 7) (by decide) (by decide), ly_row (x := 8) (by decide) (by decide)]
      exact ⟨rfl, rfl, rfl⟩
    rw [e.1, e.2.1, e.2.2]; exact q1 r hr
  · rw [row 7 (by decide), ly_row (by decide) (by decide)]; exact q2
  · rw [ly_2]
    intro k hk
    have e8 : (sS (sA (sA (sA C 8 (D 0 2) (nI kd)) 9 (D 0 2) det) 10 (D 0 2) (nI c)) 6 (nI (D 0 2 + 1))).2 8 = upd (C.2 8) (D 0 2) (nI kd) := by
      show (sA (sA (sA C 8 (D 0 2) (nI kd)) 9 (D 0 2) det) 10 (D 0 2) (nI c)).2 8 = _
      rw [sA_ne (by decide), sA_ne (by decide), sA_eq]
    have e9 : (sS (sA (sA (sA C 8 (D 0 2) (nI kd)) 9 (D 0 2) det) 10 (D 0 2) (nI c)) 6 (nI (D 0 2 + 1))).2 9 = upd (C.2 9) (D 0 2) det := by
      show (sA (sA (sA C 8 (D 0 2) (nI kd)) 9 (D 0 2) det) 10 (D 0 2) (nI c)).2 9 = _
      rw [sA_ne (by decide), sA_eq, sA_ne (by decide)]
    have e10 : (sS (sA (sA (sA C 8 (D 0 2) (nI kd)) 9 (D 0 2) det) 10 (D 0 2) (nI c)) 6 (nI (D 0 2 + 1))).2 10 = upd (C.2 10) (D 0 2) (nI c) := by
      show (sA (sA (sA C 8 (D 0 2) (nI kd)) 9 (D 0 2) det) 10 (D 0 2) (nI c)).2 10 = _
      rw [sA_eq, sA_ne (by decide), sA_ne (by decide)]
    rw [e8, e9, e10]
    have u_s : ∀ (g : Nat → Int32) v, upd g (D 0 2) v (D 0 2) = v := fun g v => if_pos rfl
    have u_n : ∀ (g : Nat → Int32) v, k ≠ D 0 2 → upd g (D 0 2) v k = g k := fun g v z => if_neg z
    by_cases q : k = D 0 2
    · obtain ⟨n1, n2, n3, n4⟩ := ly_new (D := D) (kd := kd) (a := a) (b := b) (c := c)
      rw [q, u_s, u_s, u_s]
      unfold detM
      rw [n1, n2, n3, n4]
      exact ⟨rfl, hd, rfl⟩
    · rw [u_n _ _ q, u_n _ _ q, u_n _ _ q]
      unfold detM
      rw [ly_old (by decide) q, ly_old (by decide) q, ly_old (by decide) q, ly_old (by decide) q]
      exact q3 k (by omega)
theorem ly_RelM (hM : RelM D i o M) {kd a b c : Nat} (hk : D 0 2 < 6) : RelM (lyD D kd a b c) i o (sS (sA (sA (sA (sA M 7 (D 0 2) (lch kd)) 12 (D 0 2) (nI a)) 13 (D 0 2) (nI b)) 14 (D 0 2) (nI c)) 2 (nI (D 0 2 + 1))) := by
  obtain ⟨⟨r1, r2, r3, r4, r5⟩, ⟨p1, p2, p3, p4, p5, p6⟩, q1, q2⟩ := hM
  have row : ∀ x, x ≠ 7 → x ≠ 12 → x ≠ 13 → x ≠ 14 → (sS (sA (sA (sA (sA M 7 (D 0 2) (lch kd)) 12 (D 0 2) (nI a)) 13 (D 0 2) (nI b)) 14 (D 0 2) (nI c)) 2 (nI (D 0 2 + 1))).2 x = M.2 x := fun x h1 h2 h3 h4 => by
    show (sA (sA (sA (sA M 7 (D 0 2) (lch kd)) 12 (D 0 2) (nI a)) 13 (D 0 2) (nI b)) 14 (D 0 2) (nI c)).2 x = M.2 x
    rw [sA_ne h4, sA_ne h3, sA_ne h2, sA_ne h1]
  have sc : ∀ x, x ≠ 2 → (sS (sA (sA (sA (sA M 7 (D 0 2) (lch kd)) 12 (D 0 2) (nI a)) 13 (D 0 2) (nI b)) 14 (D 0 2) (nI c)) 2 (nI (D 0 2 + 1))).1 x = M.1 x := fun x hx => sS_ne hx
  refine ⟨⟨?_, ?_, ?_, ?_, ?_⟩, ⟨?_, ?_, ?_, ?_, ?_, ?_⟩, ?_, ?_⟩
  · rw [sc 0 (by decide), ly_0 (by decide)]; exact r1
  · rw [sc 1 (by decide), ly_0 (by decide)]; exact r2
  · rw [sS_eq, ly_2]
  · rw [sc 3 (by decide)]; exact r4
  · rw [sc 4 (by decide)]; exact r5
  · rw [row 0 (by decide) (by decide) (by decide) (by decide)]; exact p1
  · rw [row 0 (by decide) (by decide) (by decide) (by decide), ly_0 (by decide), ly_row (by decide) (by decide)]; exact p2
  · rw [row 1 (by decide) (by decide) (by decide) (by decide), ly_0 (by decide), ly_row (by decide) (by decide)]; exact p3
  · rw [row 2 (by decide) (by decide) (by decide) (by decide), ly_row (by decide) (by decide)]; exact p4
  · rw [row 3 (by decide) (by decide) (by decide) (by decide), ly_0 (by decide), ly_row (by decide) (by decide)]; exact p5
  · rw [row 4 (by decide) (by decide) (by decide) (by decide), ly_row (by decide) (by decide)]; exact p6
  · rw [row 5 (by decide) (by decide) (by decide) (by decide), row 6 (by decide) (by decide) (by decide) (by decide), row 9 (by decide) (by decide) (by decide) (by decide), row 10 (by decide) (by decide) (by decide) (by decide), row 11 (by decide) (by decide) (by decide) (by decide), ly_0 (by decide), ly_row (x := 9) (by decide) (by decide), ly_row (x := 5) (by decide) (by decide), ly_row (x := 6) (by decide) (by decide), ly_row (x := 7) (by decide) (by decide), ly_row (x := 8) (by decide) (by decide)]
    exact q1
  · rw [ly_2]
    intro k hk
    have e7 : (sS (sA (sA (sA (sA M 7 (D 0 2) (lch kd)) 12 (D 0 2) (nI a)) 13 (D 0 2) (nI b)) 14 (D 0 2) (nI c)) 2 (nI (D 0 2 + 1))).2 7 = upd (M.2 7) (D 0 2) (lch kd) := by
      show (sA (sA (sA (sA M 7 (D 0 2) (lch kd)) 12 (D 0 2) (nI a)) 13 (D 0 2) (nI b)) 14 (D 0 2) (nI c)).2 7 = _
      rw [sA_ne (by decide), sA_ne (by decide), sA_ne (by decide), sA_eq]
    have e12 : (sS (sA (sA (sA (sA M 7 (D 0 2) (lch kd)) 12 (D 0 2) (nI a)) 13 (D 0 2) (nI b)) 14 (D 0 2) (nI c)) 2 (nI (D 0 2 + 1))).2 12 = upd (M.2 12) (D 0 2) (nI a) := by
      show (sA (sA (sA (sA M 7 (D 0 2) (lch kd)) 12 (D 0 2) (nI a)) 13 (D 0 2) (nI b)) 14 (D 0 2) (nI c)).2 12 = _
      rw [sA_ne (by decide), sA_ne (by decide), sA_eq, sA_ne (by decide)]
    have e13 : (sS (sA (sA (sA (sA M 7 (D 0 2) (lch kd)) 12 (D 0 2) (nI a)) 13 (D 0 2) (nI b)) 14 (D 0 2) (nI c)) 2 (nI (D 0 2 + 1))).2 13 = upd (M.2 13) (D 0 2) (nI b) := by
      show (sA (sA (sA (sA M 7 (D 0 2) (lch kd)) 12 (D 0 2) (nI a)) 13 (D 0 2) (nI b)) 14 (D 0 2) (nI c)).2 13 = _
      rw [sA_ne (by decide), sA_eq, sA_ne (by decide), sA_ne (by decide)]
    have e14 : (sS (sA (sA (sA (sA M 7 (D 0 2) (lch kd)) 12 (D 0 2) (nI a)) 13 (D 0 2) (nI b)) 14 (D 0 2) (nI c)) 2 (nI (D 0 2 + 1))).2 14 = upd (M.2 14) (D 0 2) (nI c) := by
      show (sA (sA (sA (sA M 7 (D 0 2) (lch kd)) 12 (D 0 2) (nI a)) 13 (D 0 2) (nI b)) 14 (D 0 2) (nI c)).2 14 = _
      rw [sA_eq, sA_ne (by decide), sA_ne (by decide), sA_ne (by decide)]
    rw [e7, e12, e13, e14]
    have u_s : ∀ (g : Nat → Int32) v, upd g (D 0 2) v (D 0 2) = v := fun g v => if_pos rfl
    have u_n : ∀ (g : Nat → Int32) v, k ≠ D 0 2 → upd g (D 0 2) v k = g k := fun g v z => if_neg z
    by_cases q : k = D 0 2
    · obtain ⟨n1, n2, n3, n4⟩ := ly_new (D := D) (kd := kd) (a := a) (b := b) (c := c)
      rw [q, u_s, u_s, u_s, u_s, n1, n2, n3, n4]
      exact ⟨rfl, rfl, rfl, rfl⟩
    · rw [u_n _ _ q, u_n _ _ q, u_n _ _ q, u_n _ _ q, ly_old (by decide) q, ly_old (by decide) q, ly_old (by decide) q, ly_old (by decide) q]
      exact q2 k (by omega)
end Lay
