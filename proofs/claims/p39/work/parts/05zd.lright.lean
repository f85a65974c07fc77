/-! ===== p39: the law's rules, configurations, completions ===== -/
section LRight
variable {D : Dt} {i o : Nat} {C : St}
theorem right_141 {k23 : St → Int32 → Int32 → Int32 → Option Int32} {x1 x3 x4 : Int32} {acc li keeps : Bool} (hg : ix (x4 + 4) 250) (hl : (C.2 14 (x4 + 4).toNatClampNeg = 1) ↔ li = true) : pL_isRight_141 k23 C x1 (b2i acc) x3 x4 (b2i keeps) = k23 C x1 (b2i (acc && (li || keeps))) (x3 + 1) := by
  unfold pL_isRight_141 pL_isRight_159 pL_isRight_164
  simp only [ltv, gd_t hg, b2i_a1, b2i_a0]
  cases li with
  | true => rw [if_pos (hl.mpr rfl)]; cases acc <;> rfl
  | false =>
    rw [if_neg (fun q => absurd (hl.mp q) (by decide))]
    cases keeps <;> cases acc <;> rfl
def rlB (D : Dt) (S r : Nat) : Bool := decide (D 9 r = 1) || rok D S r
theorem lRule (w : WF D) (hN : NetR D i o (C.2 14)) {S r : Nat} (hS : S < 2 ^ D 0 0) (hr : r < D 0 1) (acc : Bool) (k23 : St → Int32 → Int32 → Int32 → Option Int32) : pL_isRight_23_b k23 C (nI S) (b2i acc) (nI r) = k23 C (nI S) (b2i (acc && rlB D S r)) (nI (r + 1)) := by
  obtain ⟨n1, n2⟩ := w.n
  have r20 := w.r
  obtain ⟨⟨_, e1, _, _⟩, _, er, _⟩ := id hN
  obtain ⟨k0, k1, k2, k3, k4⟩ := er r hr
  obtain ⟨w5, w6, w7, w8, w9, _⟩ := w.ru hr
  have q31 : S < 2 ^ 31 := Nat.lt_of_lt_of_le (p12 hS n2) (by decide)
  have isS : ∀ c, c < 32 → pL_isIn (nI S) (nI c) = some (b2i (S.testBit c)) := fun c hc => lIsIn q31 hc
  have c1 : (nI (110 + 5 * r + 1)).toNatClampNeg = 110 + 5 * r + 1 := nI_clp (by omega)
  have c2 : (nI (110 + 5 * r + 2)).toNatClampNeg = 110 + 5 * r + 2 := nI_clp (by omega)
  have c3 : (nI (110 + 5 * r + 3)).toNatClampNeg = 110 + 5 * r + 3 := nI_clp (by omega)
  have c4 : (nI (110 + 5 * r + 4)).toNatClampNeg = 110 + 5 * r + 4 := nI_clp (by omega)
  have c0 : (nI (110 + 5 * r)).toNatClampNeg = 110 + 5 * r := nI_clp (by omega)
  have st := fun keeps => right_141 (C := C) (k23 := k23) (x1 := nI S) (x3 := nI r) (x4 := nI (110 + 5 * r)) (acc := acc) (li := decide (D 9 r = 1)) (keeps := keeps) (by rw [p4c]; exact nI_in (by omega) (by decide)) (by
    rw [p4c, c4, k4, decide_eq_true_eq]
    exact nI_eq (b := 1) (by omega) (by decide))
  have st0 : pL_isRight_141 k23 C (nI S) (b2i acc) (nI r) (nI (110 + 5 * r)) 0 = k23 C (nI S) (b2i (acc && (decide (D 9 r = 1) || false))) (nI r + 1) := st false
  have st1 : pL_isRight_141 k23 C (nI S) (b2i acc) (nI r) (nI (110 + 5 * r)) 1 = k23 C (nI S) (b2i (acc && (decide (D 9 r = 1) || true))) (nI r + 1) := st true
  unfold pL_isRight_23_b
  rw [gx1, z1c, e1, if_neg (nleN (by omega) (by omega) hr)]
  simp only [ltv, a110, p1c, p2c, p3c, c0, c1, c2, c3, k0, k1, k2, gd_ix (show 110 + 5 * r < 250 by omega), gd_ix (show 110 + 5 * r + 1 < 250 by omega), gd_ix (show 110 + 5 * r + 2 < 250 by omega), gd_ix (show 110 + 5 * r + 3 < 250 by omega)]
  rw [bd_t (isS _ (show D 6 r < 32 by omega))]
  simp only [bd_t (isS _ (show D 7 r < 32 by omega))]
  unfold pL_isRight_79 pL_isRight_105 pL_isRight_136
  rw [st0, st1, p1c]
  unfold rlB rok
  rcases (show D 5 r = 0 ∨ D 5 r = 1 ∨ D 5 r = 2 by omega) with q | q | q
  · rw [q, if_pos (show nI 0 = 0 from rfl), if_pos (show (0 : Nat) = 0 from rfl)]
    cases S.testBit (D 6 r) <;> cases S.testBit (D 7 r) <;> rfl
  · rw [q, if_neg (show ¬ nI 1 = 0 by decide), if_pos (show nI 1 = 1 from rfl), if_neg (show ¬ (1 : Nat) = 0 by decide), if_pos (show (1 : Nat) = 1 from rfl)]
    cases S.testBit (D 6 r) <;> cases S.testBit (D 7 r) <;> rfl
  · rw [k3 q, bd_t (isS _ (show D 8 r < 32 by omega)), q, if_neg (show ¬ nI 2 = 0 by decide), if_neg (show ¬ nI 2 = 1 by decide), if_neg (show ¬ (2 : Nat) = 0 by decide), if_neg (show ¬ (2 : Nat) = 1 by decide)]
    cases S.testBit (D 6 r) <;> cases S.testBit (D 7 r) <;> cases S.testBit (D 8 r) <;> rfl
theorem lRules (w : WF D) (hN : NetR D i o (C.2 14)) {S : Nat} (hS : S < 2 ^ D 0 0) : pL_isRight_23 FU C (nI S) 1 0 = some (b2i (rulesOk D S)) := by
  have r20 := w.r
  obtain ⟨⟨_, e1, _, _⟩, _, er, _⟩ := id hN
  refine loopF (F := fun N r => pL_isRight_23 N C (nI S) (b2i (allb (rlB D S) r)) (nI r)) (m := D 0 1) (fun N => ?_) (fun N r hr => Or.inl ?_) FU 0 (Nat.zero_le _) (by unfold FU; omega)
  · show pL_isRight_23_b (pL_isRight_23 N) C (nI S) _ (nI (D 0 1)) = _
    unfold pL_isRight_23_b
    rw [gx1, z1c, e1, if_pos (nleI (by omega) (by omega) (Nat.le_refl _)), gd_t (b2i_ok _)]
    rfl
  · exact lRule w hN hS hr _ _
theorem lRight (w : WF D) (hN : NetR D i o (C.2 14)) {S : Nat} (hS : S < 2 ^ D 0 0) : pL_isRight C (nI S) = some (b2i (good D S)) := by
  obtain ⟨n1, n2⟩ := w.n
  have q31 : S < 2 ^ 31 := Nat.lt_of_lt_of_le (p12 hS n2) (by decide)
  have ht := trB_ok w (S := S) (k := RU) (by unfold RU; omega)
  unfold pL_isRight good
  rw [bd_t (show pL_isIn (nI S) 0 = _ from lIsIn (f := 0) q31 (by decide)), bd_t (show pL_isTree RU C (nI S) 0 = _ from lTree w hN hS RU 0 n1 (by unfold RU; omega)), lRules w hN hS, ← ht]
  cases S.testBit 0 with
  | false => rfl
  | true =>
    rw [if_neg (show ¬ b2i true = 0 by decide), Bool.true_and]
    cases trB D S RU 0 with
    | false => rfl
    | true => rw [if_neg (show ¬ b2i true = 0 by decide), Bool.true_and]
theorem lCompl (w : WF D) (hi : i < 2 ^ D 0 0) (ho : o < 2 ^ D 0 0) (hN : NetR D i o (C.2 14)) {S : Nat} (hS : S < 2 ^ D 0 0) : pL_completes C (nI S) = some (b2i (cmpl D i o S)) := by
  obtain ⟨n1, n2⟩ := w.n
  have q31 : ∀ {x : Nat}, x < 2 ^ D 0 0 → x < 2 ^ 31 := fun hx => Nat.lt_of_lt_of_le (p12 hx n2) (by decide)
  obtain ⟨⟨_, _, e3, e4⟩, _, _, _⟩ := id hN
  unfold pL_completes cmpl
  rw [gx4, gx3, z4c, z3c, e3, e4, nI_land, nI_adn, bd_t (lRight w hN hS), Nat.and_comm S o]
  simp only [nI0 (q31 (adn_lt hi)), nI0 (q31 (and_lt ho))]
  by_cases a : adn i S = 0
  · rw [if_pos a, decide_eq_true a]
    by_cases b : o &&& S = 0
    · rw [if_pos b, decide_eq_true b]
      cases good D S <;> rfl
    · rw [if_neg b, decide_eq_false b]; rfl
  · rw [if_neg a, decide_eq_false a]
    split <;> rfl
theorem lPoss8 (w : WF D) (hi : i < 2 ^ D 0 0) (ho : o < 2 ^ D 0 0) (hN : NetR D i o (C.2 14)) : ∀ d N, d < 2 ^ D 0 0 → d < N → isB (pL_isPossible_8 N C (nI d)) (∃ S, 1 ≤ S ∧ S ≤ d ∧ cmpl D i o S = true)
  | _, 0, _, h => by omega
  | 0, N + 1, hd, hN2 => by
    show isB (pL_isPossible_8_b (pL_isPossible_8 N) C (nI 0)) _
    unfold pL_isPossible_8_b
    rw [if_pos (show nI 0 ≤ 0 by decide)]
    exact isB_f fun ⟨S, h1, h2, _⟩ => by omega
  | d + 1, N + 1, hd, hN2 => by
    have hp := p2le w
    have ih := lPoss8 w hi ho hN d N (by omega) (by omega)
    show isB (pL_isPossible_8_b (pL_isPossible_8 N) C (nI (d + 1))) _
    unfold pL_isPossible_8_b
    have e : nI (d + 1) + (-1) = nI d := pk_m1 d
    rw [if_neg (show ¬ nI (d + 1) ≤ 0 from nleN (b := 0) (by omega) (by decide) (by omega)), bd_t (lCompl w hi ho hN hd)]
    simp only [ltv, e]
    cases q : cmpl D i o (d + 1) with
    | true =>
      rw [if_neg (show ¬ b2i true = 0 by decide)]
      exact isB_t ⟨d + 1, by omega, Nat.le_refl _, q⟩
    | false =>
      rw [if_pos (show b2i false = 0 from rfl)]
      refine ih.congr ⟨fun ⟨S, h1, h2, h3⟩ => ⟨S, h1, by omega, h3⟩, fun ⟨S, h1, h2, h3⟩ => ⟨S, h1, ?_, h3⟩⟩
      rcases Nat.lt_or_ge d S with z | z
      · rw [show S = d + 1 by omega, q] at h3; cases h3
      · exact z
theorem lPoss (w : WF D) (hi : i < 2 ^ D 0 0) (ho : o < 2 ^ D 0 0) (hN : NetR D i o (C.2 14)) : isB (pL_isPossible C) (Pos D i o) := by
  have hp := p2le w
  have h1 : 1 ≤ 2 ^ D 0 0 := Nat.one_le_two_pow
  unfold pL_isPossible
  rw [gx0, z0c, hN.1.1, shAll w]
  simp only [ltv]
  rw [show nI (2 ^ D 0 0) - 1 = nI (2 ^ D 0 0 - 1) from pk_sub (b := 1) h1]
  refine (lPoss8 w hi ho hN (2 ^ D 0 0 - 1) FU (by omega) (by unfold FU; omega)).congr ⟨fun ⟨S, _, h2, h3⟩ => ⟨S, by omega, h3⟩, fun ⟨S, h2, h3⟩ => ⟨S, ?_, by omega, h3⟩⟩
  obtain ⟨k, hk⟩ := odd_2k.mp (cmpl_odd h3)
  omega
end LRight
