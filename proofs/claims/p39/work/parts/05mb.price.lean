/-! ===== prices ===== -/
def pop (S : Nat) : Nat := ct (fun i => S.testBit i) 12
theorem pop_le (S : Nat) : pop S ≤ 12 := ct_le _ _
def sumI (D : Dt) (S : Nat) : Nat → Int32
  | 0 => 0
  | f + 1 => if S.testBit f then sumI D S f + nI (D 10 f) else sumI D S f
def layI (D : Dt) (S k : Nat) (x : Int32) : Int32 :=
  if D 11 k = 0 then (if S.testBit (D 12 k) && S.testBit (D 13 k) then x - nI (D 14 k) else x)
  else if D 11 k = 1 then x - (x * nI (D 14 k)) / 100
  else x + nI (D 14 k) * (if 0 < nI (pop S) - nI (D 12 k) then nI (pop S) - nI (D 12 k) else 0)
def laysI (D : Dt) (S : Nat) : Nat → Int32
  | 0 => sumI D S (D 0 0)
  | k + 1 => layI D S k (laysI D S k)
def priceI (D : Dt) (S : Nat) : Int32 := laysI D S (D 0 2)
theorem sumI_s (D : Dt) (S f : Nat) : sumI D S (f + 1) = if S.testBit f then sumI D S f + nI (D 10 f) else sumI D S f := rfl
theorem sumI_ext {D : Dt} {S n : Nat} (hS : S < 2 ^ n) : ∀ m, n ≤ m → sumI D S m = sumI D S n
  | 0, h => by have : n = 0 := by omega
               rw [this]
  | m + 1, h => by
    rcases Nat.lt_or_ge m n with q | q
    · have : n = m + 1 := by omega
      rw [this]
    · rw [sumI_s, tb_lt hS q]
      exact sumI_ext hS m q
section Prices
variable {D : Dt} {i o : Nat} {C M : St}
theorem WF.ly (w : WF D) {k : Nat} (h : k < D 0 2) : D 11 k ≤ 2 ∧ D 14 k ≤ 999 ∧ (D 11 k = 0 → D 12 k < D 0 0 ∧ D 13 k < D 0 0) ∧ (D 11 k = 1 → D 14 k ≤ 100) ∧ (D 11 k = 2 → D 12 k ≤ 12) := w.2.2.2.2.2.2.2 k h
theorem cSum (h : RelC D i o C) (w : WF D) {S : Nat} (hS : S < 2 ^ D 0 0) : pX2_sumOf C (nI S) = some (sumI D S (D 0 0)) := by
  obtain ⟨n1, n2⟩ := w.n
  have hS31 : S < 2 ^ 31 := Nat.lt_of_lt_of_le (p12 hS n2) (by decide)
  unfold pX2_sumOf
  rw [← sumI_ext hS 12 n2]
  refine loopF (F := fun N k => pX2_sumOf_4 N C (nI S) (sumI D S k) (nI k)) (m := 12) (fun N => ?_) (fun N k hk => Or.inl ?_) FU 0 (Nat.zero_le _) (by unfold FU; omega)
  · show pX2_sumOf_4_b (pX2_sumOf_4 N) C _ _ (nI 12) = _
    unfold pX2_sumOf_4_b
    rw [if_pos (by decide)]
  · show pX2_sumOf_4_b (pX2_sumOf_4 N) C _ _ (nI k) = pX2_sumOf_4 N C _ _ (nI (k + 1))
    unfold pX2_sumOf_4_b pX2_sumOf_27
    rw [if_neg (show ¬ (12 : Int32) ≤ nI k from nleN (b := k) (a := 12) (by decide) (by omega) hk), bd_t (cHas C hS31 (by omega)), sumI_s]
    simp only [ltv, nI_1, gd_ix hk, nI_clp (show k < 2 ^ 31 by omega), h.pr hk]
    cases S.testBit k <;> rfl
theorem bun_adn {a b S : Nat} : adn (2 ^ a ||| 2 ^ b) S = 0 ↔ (S.testBit a && S.testBit b) = true := by
  have hz : adn (2 ^ a ||| 2 ^ b) S = 0 ↔ ∀ j, (adn (2 ^ a ||| 2 ^ b) S).testBit j = false := ⟨fun q j => by rw [q, Nat.zero_testBit], fun q => Nat.eq_of_testBit_eq fun j => by rw [q j, Nat.zero_testBit]⟩
  rw [hz, Bool.and_eq_true]
  constructor
  · intro q
    have h1 := q a
    have h2 := q b
    rw [adn_tb, Nat.testBit_or, tb_pow, tb_pow] at h1 h2
    constructor
    · simpa using h1
    · simpa using h2
  · intro ⟨h1, h2⟩ j
    rw [adn_tb, Nat.testBit_or, tb_pow, tb_pow]
    by_cases qa : a = j
    · rw [← qa, h1]; simp
    · by_cases qb : b = j
      · rw [← qb, h2]; simp
      · simp [qa, qb]
theorem cLay (h : RelC D i o C) (w : WF D) {S k : Nat} (hS : S < 2 ^ D 0 0) (hk : k < D 0 2) (x : Int32) : pX2_answerOf C (nI k) (nI S) x = some (layI D S k x) := by
  obtain ⟨n1, n2⟩ := w.n
  have la := w.la
  have hS12 := p12 hS n2
  have k6 : k < 6 := by omega
  obtain ⟨l1, l2, l3, l4, l5⟩ := w.ly hk
  obtain ⟨e8, e9, e10⟩ := h.ly hk
  unfold pX2_answerOf layI
  simp only [ltv, gd_ix k6, nI_clp (show k < 2 ^ 31 by omega), e8, e9, e10, bd_t (bitCnt hS12)]
  have t0 : nI (D 11 k) = 0 ↔ D 11 k = 0 := nI0 (by omega)
  have t1 : nI (D 11 k) = 1 ↔ D 11 k = 1 := nI_eq (b := 1) (by omega) (by decide)
  simp only [t0, t1]
  unfold detM
  by_cases q0 : D 11 k = 0
  · have a12 := pow_lt12 (show D 12 k < 12 by have := l3 q0; omega)
    have a13 := pow_lt12 (show D 13 k < 12 by have := l3 q0; omega)
    have hlt : adn (2 ^ D 12 k ||| 2 ^ D 13 k) S < 2 ^ 31 := Nat.lt_of_lt_of_le (adn_lt (Nat.or_lt_two_pow a12 a13)) (by decide)
    simp only [if_pos q0, nI_adn, nI0 hlt, bun_adn]
    cases (S.testBit (D 12 k) && S.testBit (D 13 k)) <;> rfl
  · by_cases q1 : D 11 k = 1
    · simp only [if_neg q0, if_pos q1]
    · simp only [if_neg q0, if_neg q1]
      rfl
theorem cPrice (h : RelC D i o C) (w : WF D) {S : Nat} (hS : S < 2 ^ D 0 0) : pX2_ofSet C (nI S) = some (priceI D S) := by
  have la := w.la
  unfold pX2_ofSet priceI
  rw [bd_t (cSum h w hS)]
  refine loopF (F := fun N k => pX2_ofSet_8 N C (nI S) (laysI D S k) (nI k)) (m := D 0 2) (fun N => ?_) (fun N k hk => Or.inl ?_) FU 0 (Nat.zero_le _) (by unfold FU; omega)
  · show pX2_ofSet_8_b (pX2_ofSet_8 N) C _ _ (nI (D 0 2)) = _
    unfold pX2_ofSet_8_b
    rw [h.la, if_pos (nleI (by omega) (by omega) (Nat.le_refl _))]
  · show pX2_ofSet_8_b (pX2_ofSet_8 N) C _ _ (nI k) = pX2_ofSet_8 N C _ _ (nI (k + 1))
    unfold pX2_ofSet_8_b
    rw [h.la, if_neg (nleN (by omega) (by omega) hk), bd_t (cLay h w hS hk _)]
    simp only [ltv, nI_1]
    rfl
theorem lch_b {k : Nat} : lch k = 98 ↔ k = 0 := by
  unfold lch
  split
  · exact iff_of_true rfl ‹_›
  · split
    · exact iff_of_false (by decide) ‹_›
    · exact iff_of_false (by decide) ‹_›
theorem lch_p {k : Nat} : lch k = 112 ↔ k = 1 := by
  unfold lch
  split
  · exact iff_of_false (by decide) (by omega)
  · split
    · exact iff_of_true rfl ‹_›
    · exact iff_of_false (by decide) ‹_›
theorem lch_s {k : Nat} (h : k ≤ 2) : lch k = 115 ↔ k = 2 := by
  unfold lch
  split
  · exact iff_of_false (by decide) (by omega)
  · split
    · exact iff_of_false (by decide) (by omega)
    · exact iff_of_true rfl (by omega)
theorem mPriceL (h : RelM D i o M) (w : WF D) {S : Nat} (hS : S < 2 ^ D 0 0) : pX7_priced_41 FU M (nI S) (sumI D S (D 0 0)) 0 = some (priceI D S) := by
  obtain ⟨n1, n2⟩ := w.n
  have la := w.la
  have hS12 := p12 hS n2
  have hS31 : S < 2 ^ 31 := Nat.lt_of_lt_of_le hS12 (by decide)
  unfold priceI
  refine loopF (F := fun N k => pX7_priced_41 N M (nI S) (laysI D S k) (nI k)) (m := D 0 2) (fun N => ?_) (fun N k hk => Or.inl ?_) FU 0 (Nat.zero_le _) (by unfold FU; omega)
  · show pX7_priced_41_b (pX7_priced_41 N) M _ _ (nI (D 0 2)) = _
    unfold pX7_priced_41_b
    rw [h.la, if_pos (nleI (by omega) (by omega) (Nat.le_refl _))]
  · show pX7_priced_41_b (pX7_priced_41 N) M _ _ (nI k) = pX7_priced_41 N M _ (layI D S k (laysI D S k)) (nI (k + 1))
    generalize laysI D S k = x
    have k6 : k < 6 := by omega
    obtain ⟨l1, l2, l3, l4, l5⟩ := w.ly hk
    obtain ⟨e7, e12, e13, e14⟩ := h.ly hk
    unfold pX7_priced_41_b pX7_priced_96 pX7_priced_97 pX7_priced_126 pX7_priced_166 layI
    rw [h.la, if_neg (nleN (by omega) (by omega) hk)]
    simp only [ltv, gd_ix k6, nI_clp (show k < 2 ^ 31 by omega), e7, e12, e13, e14, bd_t (bitCnt hS12), lch_b, lch_p, lch_s l1, nI_1, Int32.sub_zero, Int32.add_zero]
    by_cases q0 : D 11 k = 0
    · obtain ⟨a, b⟩ := l3 q0
      simp only [if_pos q0, bd_t (mHas M hS31 (show D 12 k < 32 by omega)), bd_t (mHas M hS31 (show D 13 k < 32 by omega)), if_neg (show ¬ D 11 k = 1 by omega), if_neg (show ¬ D 11 k = 2 by omega)]
      cases S.testBit (D 12 k) <;> cases S.testBit (D 13 k) <;> rfl
    · by_cases q1 : D 11 k = 1
      · simp only [if_neg q0, if_pos q1, if_neg (show ¬ D 11 k = 2 by omega)]
      · simp only [if_neg q0, if_neg q1, if_pos (show D 11 k = 2 by omega)]
        rfl
theorem mPrice (h : RelM D i o M) (w : WF D) {S : Nat} (hS : S < 2 ^ D 0 0) : pX7_priced M (nI S) = some (priceI D S) := by
  obtain ⟨n1, n2⟩ := w.n
  have hS31 : S < 2 ^ 31 := Nat.lt_of_lt_of_le (p12 hS n2) (by decide)
  unfold pX7_priced
  refine loopF (F := fun N k => pX7_priced_4 N M (nI S) (sumI D S k) (nI k)) (m := D 0 0) (fun N => ?_) (fun N k hk => Or.inl ?_) FU 0 (Nat.zero_le _) (by unfold FU; omega)
  · show pX7_priced_4_b (pX7_priced_4 N) M _ _ (nI (D 0 0)) = _
    unfold pX7_priced_4_b
    rw [h.n, if_pos (nleI (by omega) (by omega) (Nat.le_refl _)), mPriceL h w hS]
  · show pX7_priced_4_b (pX7_priced_4 N) M _ _ (nI k) = pX7_priced_4 N M _ _ (nI (k + 1))
    unfold pX7_priced_4_b pX7_priced_31
    rw [h.n, if_neg (nleN (by omega) (by omega) hk), bd_t (mHas M hS31 (show k < 32 by omega)), sumI_s]
    simp only [ltv, nI_1, gd_ix (show k < 12 by omega), nI_clp (show k < 2 ^ 31 by omega), h.pr hk, Int32.add_zero]
    cases S.testBit k <;> rfl
end Prices
