/-! ===== states ===== -/
def canS (D : Dt) (i o f : Nat) (b : Bool) : Bool := !allb (fun S => !(cmpl D i o S && (S.testBit f == b))) (2 ^ D 0 0)
def stL (D : Dt) (i o f : Nat) : Int32 := if i.testBit f then 99 else if o.testBit f then 114 else if canS D i o f true then (if canS D i o f false then 111 else 97) else 120
section State
variable {D : Dt} {i o : Nat} {C M : St}
theorem canS_iff {f : Nat} {b : Bool} : canS D i o f b = true ↔ ∃ S, S < 2 ^ D 0 0 ∧ cmpl D i o S = true ∧ S.testBit f = b := by
  unfold canS
  have e : (!allb (fun S => !(cmpl D i o S && (S.testBit f == b))) (2 ^ D 0 0)) = true ↔ allb (fun S => !(cmpl D i o S && (S.testBit f == b))) (2 ^ D 0 0) = false := by
    cases allb (fun S => !(cmpl D i o S && (S.testBit f == b))) (2 ^ D 0 0) <;> simp
  rw [e, allb_false]
  refine exists_congr fun S => and_congr Iff.rfl ?_
  cases cmpl D i o S <;> cases S.testBit f <;> cases b <;> decide
theorem zero_all {x : Nat} : x = 0 ↔ ∀ j, x.testBit j = false := ⟨fun h j => by rw [h, Nat.zero_testBit], fun h => Nat.eq_of_testBit_eq fun j => by rw [h j, Nat.zero_testBit]⟩
theorem adn_or {f S : Nat} : adn (i ||| 2 ^ f) S = 0 ↔ adn i S = 0 ∧ S.testBit f = true := by
  rw [zero_all, zero_all]
  constructor
  · intro h
    constructor
    · intro j
      have := h j
      rw [adn_tb, Nat.testBit_or] at this
      rw [adn_tb]
      cases a : i.testBit j <;> cases b : S.testBit j <;> simp_all
    · have := h f
      rw [adn_tb, Nat.testBit_or, tb_pow] at this
      simpa using this
  · intro ⟨h1, h2⟩ j
    have := h1 j
    rw [adn_tb] at this
    rw [adn_tb, Nat.testBit_or, tb_pow]
    by_cases q : f = j
    · rw [← q, h2]; simp
    · simp [q]; simpa using this
theorem and_or {f S : Nat} : (o ||| 2 ^ f) &&& S = 0 ↔ o &&& S = 0 ∧ S.testBit f = false := by
  rw [zero_all, zero_all]
  constructor
  · intro h
    constructor
    · intro j
      have := h j
      rw [Nat.testBit_and, Nat.testBit_or] at this
      rw [Nat.testBit_and]
      cases a : o.testBit j <;> cases b : S.testBit j <;> simp_all
    · have := h f
      rw [Nat.testBit_and, Nat.testBit_or, tb_pow] at this
      simpa using this
  · intro ⟨h1, h2⟩ j
    have := h1 j
    rw [Nat.testBit_and] at this
    rw [Nat.testBit_and, Nat.testBit_or, tb_pow]
    by_cases q : f = j
    · rw [← q, h2]; simp
    · simp [q]; simpa using this
theorem cmpl_iff {i o S : Nat} : cmpl D i o S = true ↔ adn i S = 0 ∧ o &&& S = 0 ∧ good D S = true := by
  unfold cmpl
  rw [Bool.and_eq_true, Bool.and_eq_true, decide_eq_true_iff, decide_eq_true_iff]
theorem cmpl_in {f S : Nat} : cmpl D (i ||| 2 ^ f) o S = true ↔ cmpl D i o S = true ∧ S.testBit f = true := by
  rw [cmpl_iff, cmpl_iff, adn_or]
  exact ⟨fun ⟨⟨a, b⟩, c⟩ => ⟨⟨a, c⟩, b⟩, fun ⟨⟨a, c⟩, b⟩ => ⟨⟨a, b⟩, c⟩⟩
theorem cmpl_out {f S : Nat} : cmpl D i (o ||| 2 ^ f) S = true ↔ cmpl D i o S = true ∧ S.testBit f = false := by
  rw [cmpl_iff, cmpl_iff, and_or]
  exact ⟨fun ⟨a, ⟨b, c⟩, d⟩ => ⟨⟨a, b, d⟩, c⟩, fun ⟨⟨a, b, d⟩, c⟩ => ⟨a, ⟨b, c⟩, d⟩⟩
theorem cReach0 (h : RelC D i o C) (w : WF D) {ii oo : Nat} (hi : ii < 2 ^ D 0 0) (ho : oo < 2 ^ D 0 0) : isB (pX4_reaches RU C 0 0 (nI ii) (nI oo)) (∃ S, S < 2 ^ D 0 0 ∧ cmpl D ii oo S = true) := by
  obtain ⟨n1, n2⟩ := w.n
  exact isB.congr (show isB (pX4_reaches RU C 0 0 (nI ii) (nI oo)) _ from cReaches h w (p12 hi n2) (p12 ho n2) RU 0 0 (Nat.zero_le _) (by unfold RU; omega) (by decide)) (exists_congr fun S => rest_cmpl w hi)
theorem cLetter (h : RelC D i o C) (w : WF D) (hi : i < 2 ^ D 0 0) (ho : o < 2 ^ D 0 0) {f : Nat} (hf : f < D 0 0) (a b : Bool) : pX6_stateLetter C (nI f) (b2i a) (b2i b) = some (if i.testBit f then 99 else if o.testBit f then 114 else if a then (if b then 111 else 97) else 120) := by
  obtain ⟨n1, n2⟩ := w.n
  have q31 : ∀ {x : Nat}, x < 2 ^ D 0 0 → x < 2 ^ 31 := fun hx => Nat.lt_of_lt_of_le (p12 hx n2) (by decide)
  unfold pX6_stateLetter
  rw [h.ci, h.co, nI_lor, bd_t (cHas C (q31 (Nat.or_lt_two_pow hi ho)) (by omega)), bd_t (cHas C (q31 hi) (by omega)), Nat.testBit_or]
  cases i.testBit f <;> cases o.testBit f <;> cases a <;> cases b <;> rfl
theorem stL_ok (f : Nat) : okC (stL D i o f) := by
  unfold stL
  split
  · decide
  · split
    · decide
    · split
      · split <;> decide
      · decide
theorem cState (h : RelC D i o C) (w : WF D) (hi : i < 2 ^ D 0 0) (ho : o < 2 ^ D 0 0) {f : Nat} (hf : f < D 0 0) : pX6_stateOf C (nI f) = some (.inr (stL D i o f)) := by
  obtain ⟨n1, n2⟩ := w.n
  have hcf : pX6_checkFeature C (nI f) = some (.inr ()) := by
    unfold pX6_checkFeature
    rw [if_neg (nI_pos (by omega)), h.n, if_pos (nltI (by omega) (by omega) hf)]
  unfold pX6_stateOf
  rw [hcf]
  show (ltv ((1 : Int32) <<< (nI f &&& 31)) fun v_2 => _) = _
  simp only [ltv, nI_sh f (show f < 31 by omega), h.ci, h.co, nI_lor]
  have hpf : 2 ^ f < 2 ^ D 0 0 := Nat.pow_lt_pow_right (by decide) hf
  have r1 : isB (pX4_reaches RU C 0 0 (nI (i ||| 2 ^ f)) (nI o)) (canS D i o f true = true) := (cReach0 h w (Nat.or_lt_two_pow hi hpf) ho).congr (by
    rw [canS_iff]
    exact exists_congr fun S => and_congr Iff.rfl cmpl_in)
  have r2 : isB (pX4_reaches RU C 0 0 (nI i) (nI (o ||| 2 ^ f))) (canS D i o f false = true) := (cReach0 h w hi (Nat.or_lt_two_pow ho hpf)).congr (by
    rw [canS_iff]
    exact exists_congr fun S => and_congr Iff.rfl cmpl_out)
  rw [bd_t r1.val, bd_t r2.val, bd_t (cLetter h w hi ho hf _ _)]
  exact gd_t (stL_ok (D := D) (i := i) (o := o) f)
theorem cStateAll (h : RelC D i o C) (w : WF D) (hi : i < 2 ^ D 0 0) (ho : o < 2 ^ D 0 0) {f : Nat} (hf : f < D 0 0) : pX6_stateByAll C (nI f) = some (.inr (stL D i o f)) := by
  obtain ⟨n1, n2⟩ := w.n
  have q31 : ∀ {x : Nat}, x < 2 ^ D 0 0 → x < 2 ^ 31 := fun hx => Nat.lt_of_lt_of_le (p12 hx n2) (by decide)
  have hcf : pX6_checkFeature C (nI f) = some (.inr ()) := by
    unfold pX6_checkFeature
    rw [if_neg (nI_pos (by omega)), h.n, if_pos (nltI (by omega) (by omega) hf)]
  have h1 : 1 ≤ 2 ^ D 0 0 := Nat.one_le_two_pow
  have bS : fo (cmpl D i o) (fun x S => x ||| S) 0 (2 ^ D 0 0) < 2 ^ D 0 0 := fo_or (Nat.two_pow_pos _) _ (Nat.le_refl _)
  have bA : fo (cmpl D i o) (fun x S => x &&& S) (2 ^ D 0 0 - 1) (2 ^ D 0 0) < 2 ^ D 0 0 := fo_and (by omega) _ (Nat.le_refl _)
  have e1 : (fo (cmpl D i o) (fun x S => x ||| S) 0 (2 ^ D 0 0)).testBit f = canS D i o f true := by
    rw [Bool.eq_iff_iff, fo_or_tb, canS_iff]
  have e2 : (!(fo (cmpl D i o) (fun x S => x &&& S) (2 ^ D 0 0 - 1) (2 ^ D 0 0)).testBit f) = canS D i o f false := by
    have hall : (2 ^ D 0 0 - 1).testBit f = true := by rw [Nat.testBit_two_pow_sub_one]; simpa using hf
    rw [Bool.eq_iff_iff, canS_iff]
    constructor
    · intro q
      apply Classical.byContradiction
      intro z
      have : (fo (cmpl D i o) (fun x S => x &&& S) (2 ^ D 0 0 - 1) (2 ^ D 0 0)).testBit f = true := fo_and_tb.mpr ⟨hall, fun S hS y => by
        cases t : S.testBit f with
        | true => rfl
        | false => exact absurd ⟨S, hS, y, t⟩ z⟩
      rw [this] at q; cases q
    · intro ⟨S, hS, y, t⟩
      cases z : (fo (cmpl D i o) (fun x S => x &&& S) (2 ^ D 0 0 - 1) (2 ^ D 0 0)).testBit f with
      | false => rfl
      | true =>
        have := (fo_and_tb.mp z).2 S hS y
        rw [t] at this; cases this
  unfold pX6_stateByAll pX6_stateByAll_30
  rw [hcf]
  show (bd (pX6_featuresInSome C) fun r_2 => _) = _
  rw [bd_t (cInSome h w hi ho), bd_t (cHas C (q31 bS) (by omega)), bd_t (cInAll h w hi ho), bd_t (cHas C (q31 bA) (by omega)), e1]
  have e3 : (fo (cmpl D i o) (fun x S => x &&& S) (2 ^ D 0 0 - 1) (2 ^ D 0 0)).testBit f = !canS D i o f false := by rw [← e2, Bool.not_not]
  rw [e3]
  have l0 := cLetter h w hi ho hf (canS D i o f true) true
  have l1 := cLetter h w hi ho hf (canS D i o f true) false
  have ok := stL_ok (D := D) (i := i) (o := o) f
  unfold stL at ok ⊢
  cases q : canS D i o f false with
  | true =>
    rw [q] at ok
    rw [if_pos (by decide), show (1 : Int32) = b2i true from rfl, bd_t l0, gd_t ok]
  | false =>
    rw [q] at ok
    rw [if_neg (by decide), show (0 : Int32) = b2i false from rfl, bd_t l1, gd_t ok]
theorem mState23 (h : RelM D i o M) (w : WF D) (hi : i < 2 ^ D 0 0) (ho : o < 2 ^ D 0 0) (hex : ∃ S, S < 2 ^ D 0 0 ∧ cmpl D i o S = true) {f : Nat} (hf : f < D 0 0) : pX7_stateOf_23 FU M (nI f) 0 0 1 = some (stL D i o f, M) := by
  obtain ⟨n1, n2⟩ := w.n
  have hp := p2le w
  have hh := pow_half n1
  have q31 : ∀ {x : Nat}, x < 2 ^ D 0 0 → x < 2 ^ 31 := fun hx => Nat.lt_of_lt_of_le (p12 hx n2) (by decide)
  have z0 : ∀ b, (ct (fun S => cmpl D i o S && (S.testBit f == b)) (2 ^ D 0 0) = 0) ↔ canS D i o f b = false := by
    intro b
    constructor
    · intro q
      cases z : canS D i o f b with
      | false => rfl
      | true =>
        obtain ⟨S, h1, h2, h3⟩ := canS_iff.mp z
        have : ∀ n, S < n → 0 < ct (fun S => cmpl D i o S && (S.testBit f == b)) n := fun n hn => by
          have e : n = S + 1 + (n - (S + 1)) := by omega
          rw [e, ct_add, ct_s, h2, h3]
          cases b <;> simp <;> omega
        have := this _ h1
        omega
    · intro q
      refine ct_zero fun S hS => ?_
      cases z : (cmpl D i o S && (S.testBit f == b)) with
      | false => rfl
      | true =>
        rw [Bool.and_eq_true, beq_iff_eq] at z
        rw [canS_iff.mpr ⟨S, hS, z.1, z.2⟩] at q; cases q
  refine loopF (F := fun N k => pX7_stateOf_23 N M (nI f) (nI (ct (fun S => cmpl D i o S && (S.testBit f == true)) (2 * k))) (nI (ct (fun S => cmpl D i o S && (S.testBit f == false)) (2 * k))) (nI (2 * k + 1))) (m := 2 ^ (D 0 0 - 1)) (fun N => ?_) (fun N k hk => Or.inl ?_) FU 0 (Nat.zero_le _) (by unfold FU; omega)
  · show pX7_stateOf_23_b (pX7_stateOf_23 N) M (nI f) _ _ (nI (2 * 2 ^ (D 0 0 - 1) + 1)) = _
    unfold pX7_stateOf_23_b
    rw [h.n, shAll w, if_pos (nleI (by omega) (by omega) (by omega)), ← hh, h.ci, h.co, bd_t (mHas M (q31 hi) (by omega)), bd_t (mHas M (q31 ho) (by omega))]
    have c1 := ct_le (fun S => cmpl D i o S && (S.testBit f == true)) (2 ^ D 0 0)
    have c2 := ct_le (fun S => cmpl D i o S && (S.testBit f == false)) (2 ^ D 0 0)
    simp only [nI0 (show ct (fun S => cmpl D i o S && (S.testBit f == true)) (2 ^ D 0 0) < 2 ^ 31 by omega), nI0 (show ct (fun S => cmpl D i o S && (S.testBit f == false)) (2 ^ D 0 0) < 2 ^ 31 by omega), z0]
    unfold stL
    have hor : canS D i o f true = true ∨ canS D i o f false = true := by
      obtain ⟨S, h1, h2⟩ := hex
      cases t : S.testBit f with
      | true => exact Or.inl (canS_iff.mpr ⟨S, h1, h2, t⟩)
      | false => exact Or.inr (canS_iff.mpr ⟨S, h1, h2, t⟩)
    revert hor
    cases i.testBit f <;> cases o.testBit f <;> cases canS D i o f true <;> cases canS D i o f false <;> intro hor <;> first | rfl | (exact absurd hor (by decide))
  · show pX7_stateOf_23_b (pX7_stateOf_23 N) M (nI f) _ _ (nI (2 * k + 1)) = pX7_stateOf_23 N M (nI f) _ _ (nI (2 * (k + 1) + 1))
    unfold pX7_stateOf_23_b pX7_stateOf_61 pX7_stateOf_62 pX7_stateOf_83 pX7_stateOf_84
    rw [h.n, shAll w, if_neg (nleN (by omega) (by omega) (by omega)), bd_t (mCompletes h w (show 2 * k + 1 < 2 ^ 12 by omega) (p12 hi n2) (p12 ho n2)), bd_t (mHas M (show 2 * k + 1 < 2 ^ 31 by omega) (by omega))]
    simp only [ltv, nI_odd, bd_t (mHas M (show 2 * k + 1 < 2 ^ 31 by omega) (show f < 32 by omega))]
    have s1 : ∀ b, ct (fun S => cmpl D i o S && (S.testBit f == b)) (2 * (k + 1)) = ct (fun S => cmpl D i o S && (S.testBit f == b)) (2 * k) + (if (cmpl D i o (2 * k + 1) && ((2 * k + 1).testBit f == b)) then 1 else 0) := fun b => by
      rw [show 2 * (k + 1) = 2 * k + 1 + 1 by omega, ct_s, ct_s, even_no]; rfl
    rw [s1, s1]
    generalize ct (fun S => cmpl D i o S && (S.testBit f == true)) (2 * k) = a
    generalize ct (fun S => cmpl D i o S && (S.testBit f == false)) (2 * k) = b
    have A0 : ∀ n, nI n + 0 = nI (n + 0) := fun n => Int32.add_zero _
    cases cmpl D i o (2 * k + 1) <;> cases (2 * k + 1).testBit f <;> simp [b2i_f, b2i_tt, A0, nI_1]
end State
