/-! ===== wishes ===== -/
def wr (i o S : Nat) : Nat := adn i S ||| (o &&& S)
def smN : Option Nat → Nat → Option Nat
  | none, w => some w
  | some b, w => if decide (pop w < pop b) || (decide (pop w = pop b) && decide (w < b)) then some w else some b
theorem smN_s (b w : Nat) : smN (some b) w = if decide (pop w < pop b) || (decide (pop w = pop b) && decide (w < b)) then some w else some b := rfl
def wish (D : Dt) (f : Nat) (b : Bool) (S : Nat) : Bool := good D S && (S.testBit f == b)
def wrTo (D : Dt) (i o f : Nat) (b : Bool) (n : Nat) : Option Nat := fo (wish D f b) (fun x S => smN x (wr i o S)) none n
def wrs (D : Dt) (i o f : Nat) (b : Bool) : Option Nat := wrTo D i o f b (2 ^ D 0 0)
section Wrong
variable {D : Dt} {i o : Nat} {C M : St}
theorem wr_lt {n S : Nat} (hi : i < 2 ^ n) (ho : o < 2 ^ n) : wr i o S < 2 ^ n := Nat.or_lt_two_pow (adn_lt hi) (and_lt ho)
theorem wrTo_lt {n f : Nat} {b : Bool} (hi : i < 2 ^ n) (ho : o < 2 ^ n) : ∀ m x, wrTo D i o f b m = some x → x < 2 ^ n
  | 0, x, h => by cases h
  | m + 1, x, h => by
    unfold wrTo at h
    rw [fo_s] at h
    have ih := wrTo_lt (f := f) (b := b) hi ho m
    unfold wrTo at ih
    split at h
    · cases q : fo (wish D f b) (fun x S => smN x (wr i o S)) none m with
      | none =>
        rw [q] at h
        cases h
        exact wr_lt hi ho
      | some y =>
        rw [q] at h
        have h : smN (some y) (wr i o m) = some x := h
        rw [smN_s] at h
        split at h
        · cases h; exact wr_lt hi ho
        · cases h; have ih2 := ih x; exact ih2 q
    · exact ih x h
theorem bitP {s : Nat} (h : s < 2 ^ 12) : pJ6_bitCount_0f7a4 (nI s) = some (nI (pop s)) := bitCnt h
theorem cSmaller (C : St) {a : Option Nat} {w : Nat} (ha : ∀ x, a = some x → x < 2 ^ 12) (hw : w < 2 ^ 12) : pX6_smallerOf C (oI a) (nI w) = some (oI (smN a w)) := by
  unfold pX6_smallerOf
  cases a with
  | none => rfl
  | some b =>
    have hb := ha b rfl
    have hne : ¬ oI (some b) = -1 := fun q => by
      have := ieq.mp q
      rw [show (oI (some b)).toInt = b from nI_toInt (by omega)] at this
      have e : (-1 : Int32).toInt = -1 := by decide
      omega
    have pw := pop_le w
    have pb := pop_le b
    rw [if_neg hne, show oI (some b) = nI b from rfl, bd_t (bitP hw), bd_t (bitP hb), smN_s]
    simp only [ltv]
    have hs : (nI (pop w) - nI (pop b)).toInt = (pop w : Int) - pop b := pk_sub_toInt (by omega) (by omega)
    have z0 : (0 : Int32).toInt = 0 := by decide
    simp only [ilt, ieq, ile, hs, z0, nI_toInt (show w < 2 ^ 31 by omega), nI_toInt (show b < 2 ^ 31 by omega)]
    by_cases c1 : pop w < pop b
    · rw [if_pos (by omega), decide_eq_true c1]; rfl
    · rw [if_neg (by omega), decide_eq_false c1]
      by_cases c2 : pop w = pop b
      · rw [if_pos (by omega), decide_eq_true c2]
        by_cases c3 : w < b
        · rw [if_neg (by omega), decide_eq_true c3]; rfl
        · rw [if_pos (by omega), decide_eq_false c3]; rfl
      · rw [if_neg (by omega), decide_eq_false c2]; rfl
theorem beq_b2i {a b : Bool} : b2i a = b2i b ↔ (a == b) = true := by cases a <;> cases b <;> decide
theorem cAgainst (h : RelC D i o C) (w : WF D) (hi : i < 2 ^ D 0 0) (ho : o < 2 ^ D 0 0) {f : Nat} (hf : f < D 0 0) (b : Bool) : pX6_decisionsAgainst C (nI f) (b2i b) = some (match wrs D i o f b with
    | none => .inl 5
    | some x => .inr (nI x)) := by
  obtain ⟨n1, n2⟩ := w.n
  have hp := p2le w
  have h1 : 1 ≤ 2 ^ D 0 0 := Nat.one_le_two_pow
  unfold pX6_decisionsAgainst
  rw [bd_t (cAllF h w)]
  refine loopF (F := fun N k => pX6_decisionsAgainst_14 N C (nI f) (b2i b) (oI (wrTo D i o f b k)) (nI (2 ^ D 0 0 - 1)) (nI k)) (m := 2 ^ D 0 0) (fun N => ?_) (fun N k hk => Or.inl ?_) FU 0 (Nat.zero_le _) (by unfold FU; omega)
  · show pX6_decisionsAgainst_14_b (pX6_decisionsAgainst_14 N) C (nI f) (b2i b) _ _ (nI (2 ^ D 0 0)) = _
    unfold pX6_decisionsAgainst_14_b
    rw [if_pos (nltI (by omega) (by omega) (by omega))]
    unfold wrs
    cases q : wrTo D i o f b (2 ^ D 0 0) with
    | none => rfl
    | some x =>
      have hx := p12 (wrTo_lt hi ho _ x q) n2
      rw [if_neg (fun q => by
        have := ieq.mp q
        rw [show (oI (some x)).toInt = x from nI_toInt (by omega)] at this
        have e : (-1 : Int32).toInt = -1 := by decide
        omega)]
      rfl
  · show pX6_decisionsAgainst_14_b (pX6_decisionsAgainst_14 N) C (nI f) (b2i b) _ _ (nI k) = pX6_decisionsAgainst_14 N C _ _ _ _ (nI (k + 1))
    have hk12 := p12 hk n2
    unfold pX6_decisionsAgainst_14_b pX6_decisionsAgainst_62
    rw [if_neg (nltN (by omega) (by omega) (by omega)), bd_t (cHas C (show k < 2 ^ 31 by omega) (by omega)), bd_t (cIsAllowed h w hk), h.ci, h.co, nI_adn, nI_land, nI_lor]
    have e : wrTo D i o f b (k + 1) = if wish D f b k then smN (wrTo D i o f b k) (wr i o k) else wrTo D i o f b k := rfl
    rw [e]
    simp only [ltv, nI_1, beq_b2i]
    have sm := cSmaller C (a := wrTo D i o f b k) (w := wr i o k) (fun x q => p12 (wrTo_lt hi ho _ x q) n2) (p12 (wr_lt hi ho) n2)
    have sm' : pX6_smallerOf C (oI (wrTo D i o f b k)) (nI (adn i k ||| o &&& k)) = some (oI (smN (wrTo D i o f b k) (wr i o k))) := sm
    rw [bd_t sm']
    unfold wish
    cases (k.testBit f == b) <;> cases good D k <;> rfl
theorem wish_even {f k : Nat} {b : Bool} : wish D f b (2 * k) = false := by
  cases h : wish D f b (2 * k) with
  | false => rfl
  | true =>
    unfold wish at h
    rw [Bool.and_eq_true] at h
    obtain ⟨j, hj⟩ := odd_2k.mp (good_odd h.1)
    omega
theorem mWrong (h : RelM D i o M) (w : WF D) (hi : i < 2 ^ D 0 0) (ho : o < 2 ^ D 0 0) {f : Nat} (hf : f < D 0 0) (b : Bool) : pX7_wrong M (nI f) (b2i b) = some (oI (wrs D i o f b)) := by
  obtain ⟨n1, n2⟩ := w.n
  have hp := p2le w
  have hh := pow_half n1
  unfold pX7_wrong wrs
  rw [hh]
  refine loopF (F := fun N k => pX7_wrong_5 N M (nI f) (b2i b) (oI (wrTo D i o f b (2 * k))) (nI (2 * k + 1))) (m := 2 ^ (D 0 0 - 1)) (fun N => ?_) (fun N k hk => Or.inl ?_) FU 0 (Nat.zero_le _) (by unfold FU; omega)
  · show pX7_wrong_5_b (pX7_wrong_5 N) M _ _ _ (nI (2 * 2 ^ (D 0 0 - 1) + 1)) = _
    unfold pX7_wrong_5_b
    rw [h.n, shAll w, if_pos (nleI (by omega) (by omega) (by omega))]
  · show pX7_wrong_5_b (pX7_wrong_5 N) M _ _ _ (nI (2 * k + 1)) = pX7_wrong_5 N M _ _ _ (nI (2 * (k + 1) + 1))
    unfold pX7_wrong_5_b pX7_wrong_72 pX7_wrong_90 pX7_wrong_95 pX7_wrong_96 pX7_wrong_97
    rw [h.n, shAll w, if_neg (nleN (by omega) (by omega) (by omega)), bd_t (mHas M (show 2 * k + 1 < 2 ^ 31 by omega) (by omega)), bd_t (mGood h w (show 2 * k + 1 < 2 ^ 12 by omega)), h.ci, h.co, nI_adn, nI_land, nI_lor]
    have e : wrTo D i o f b (2 * (k + 1)) = if wish D f b (2 * k + 1) then smN (wrTo D i o f b (2 * k)) (wr i o (2 * k + 1)) else wrTo D i o f b (2 * k) := fo_odd wish_even
    rw [e]
    simp only [ltv, nI_odd, beq_b2i]
    have hwr : wr i o (2 * k + 1) < 2 ^ 12 := p12 (wr_lt hi ho) n2
    have hbc : pJ6_bitCount_0f7a4 (nI (adn i (2 * k + 1) ||| o &&& (2 * k + 1))) = some (nI (pop (wr i o (2 * k + 1)))) := bitCnt hwr
    rw [bd_t hbc]
    unfold wish
    cases ((2 * k + 1).testBit f == b) with
    | false => rw [if_neg (by decide), Bool.and_false]; rfl
    | true =>
      rw [if_pos rfl]
      cases good D (2 * k + 1) with
      | false => rfl
      | true =>
        rw [if_neg (show ¬ b2i true = 0 by decide), show (true && true) = true from rfl, if_pos rfl]
        cases hb : wrTo D i o f b (2 * k) with
        | none =>
          rw [if_neg (show ¬ (0 : Int32) ≤ oI none by decide), if_pos (by decide)]; rfl
        | some x =>
          have hx := p12 (wrTo_lt hi ho _ x hb) n2
          have pw := pop_le (wr i o (2 * k + 1))
          have pb := pop_le x
          rw [if_pos (show (0 : Int32) ≤ oI (some x) from nI_pos' (by omega)), show oI (some x) = nI x from rfl, bd_t (bitCnt hx), smN_s]
          show (if nI (pop (wr i o (2 * k + 1))) - nI (pop x) < 0 then _ else _) = _
          have hs : (nI (pop (wr i o (2 * k + 1))) - nI (pop x)).toInt = (pop (wr i o (2 * k + 1)) : Int) - pop x := pk_sub_toInt (by omega) (by omega)
          have z0 : (0 : Int32).toInt = 0 := by decide
          have hq : nI (adn i (2 * k + 1) ||| o &&& (2 * k + 1)) = nI (wr i o (2 * k + 1)) := rfl
          rw [hq]
          show (if nI (pop (wr i o (2 * k + 1))) - nI (pop x) < 0 then _ else if nI (pop (wr i o (2 * k + 1))) - nI (pop x) = 0 then _ else _) = _
          simp only [ilt, ieq, ile, hs, z0, nI_toInt (show wr i o (2 * k + 1) < 2 ^ 31 by omega), nI_toInt (show x < 2 ^ 31 by omega)]
          generalize wr i o (2 * k + 1) = W at pw ⊢
          by_cases c1 : pop W < pop x
          · rw [if_pos (by omega), decide_eq_true c1]; rfl
          · rw [if_neg (by omega), decide_eq_false c1]
            by_cases c2 : pop W = pop x
            · rw [if_pos (by omega), decide_eq_true c2]
              by_cases c3 : W < x
              · rw [if_neg (by omega), decide_eq_true c3]; rfl
              · rw [if_pos (by omega), decide_eq_false c3]; rfl
            · rw [if_neg (by omega), decide_eq_false c2]; rfl
end Wrong
