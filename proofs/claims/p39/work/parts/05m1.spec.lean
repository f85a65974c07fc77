/-! ===== what a model is: numbers by place; what is a configuration ===== -/
/-- 0: [features, rules, layers]; 1 parent, 2 least, 3 greatest, 4 mandatory; 5 kind of a rule (0 requires, 1 excludes, 2 any), 6 7 8 its features, 9 lifted; 10 price; 11 kind of a layer (0 bundle, 1 percent, 2 surcharge), 12 13 its details, 14 its amount -/
abbrev Dt : Type := Nat → Nat → Nat
def allb (p : Nat → Bool) : Nat → Bool
  | 0 => true
  | n + 1 => allb p n && p n
theorem allb_iff {p : Nat → Bool} : ∀ {n : Nat}, allb p n = true ↔ ∀ k, k < n → p k = true
  | 0 => ⟨fun _ k h => absurd h (Nat.not_lt_zero k), fun _ => rfl⟩
  | n + 1 => by
    unfold allb
    rw [Bool.and_eq_true, allb_iff]
    constructor
    · intro ⟨h1, h2⟩ k hk
      rcases Nat.lt_or_ge k n with h | h
      · exact h1 k h
      · have : k = n := by omega
        rw [this]; exact h2
    · intro h
      exact ⟨fun k hk => h k (by omega), h n (by omega)⟩
theorem allb_false {p : Nat → Bool} {n : Nat} : allb p n = false ↔ ∃ k, k < n ∧ p k = false := by
  constructor
  · intro h
    apply Classical.byContradiction
    intro hc
    have : allb p n = true := allb_iff.mpr fun k hk => by
      cases hp : p k with
      | true => rfl
      | false => exact absurd ⟨k, hk, hp⟩ hc
    rw [this] at h; cases h
  · intro ⟨k, hk, hp⟩
    cases ha : allb p n with
    | false => rfl
    | true => have := allb_iff.mp ha k hk; rw [hp] at this; cases this
theorem allb_cong {p q : Nat → Bool} : ∀ {n : Nat}, (∀ k, k < n → p k = q k) → allb p n = allb q n
  | 0, _ => rfl
  | n + 1, h => by unfold allb; rw [allb_cong (fun k hk => h k (by omega)), h n (by omega)]
/-- how many of the first n -/
def ct (p : Nat → Bool) : Nat → Nat
  | 0 => 0
  | n + 1 => ct p n + (if p n then 1 else 0)
theorem ct_le (p : Nat → Bool) : ∀ n, ct p n ≤ n
  | 0 => Nat.le_refl 0
  | n + 1 => by have := ct_le p n; unfold ct; split <;> omega
theorem ct_cong {p q : Nat → Bool} : ∀ {n : Nat}, (∀ k, k < n → p k = q k) → ct p n = ct q n
  | 0, _ => rfl
  | n + 1, h => by unfold ct; rw [ct_cong (fun k hk => h k (by omega)), h n (by omega)]
theorem ct_mono {p q : Nat → Bool} : ∀ {n : Nat}, (∀ k, k < n → p k = true → q k = true) → ct p n ≤ ct q n
  | 0, _ => Nat.le_refl 0
  | n + 1, h => by
    have h1 := ct_mono (n := n) (fun k hk => h k (by omega))
    have h2 := h n (by omega)
    unfold ct
    cases hp : p n <;> cases hq : q n <;> simp_all <;> omega
/-- the number whose bits are p's -/
def mkb (p : Nat → Bool) : Nat → Nat
  | 0 => 0
  | n + 1 => mkb p n + (if p n then 2 ^ n else 0)
theorem mkb_lt (p : Nat → Bool) : ∀ n, mkb p n < 2 ^ n
  | 0 => by unfold mkb; exact Nat.zero_lt_one
  | n + 1 => by have := mkb_lt p n; unfold mkb; rw [Nat.pow_succ]; split <;> omega
theorem mkb_tb (p : Nat → Bool) : ∀ n i, (mkb p n).testBit i = (decide (i < n) && p i)
  | 0, i => by simp [mkb]
  | n + 1, i => by
    have hlt := mkb_lt p n
    have ih := mkb_tb p n i
    unfold mkb
    cases hp : p n with
    | false =>
      simp only [Bool.false_eq_true, if_false, Nat.add_zero, ih]
      rcases Nat.lt_trichotomy i n with h | h | h
      · simp [h, Nat.lt_succ_of_lt h]
      · subst h; simp [hp]
      · simp [Nat.not_lt.mpr (Nat.le_of_lt h), Nat.not_lt.mpr h]
    | true =>
      simp only [if_true]
      rw [Nat.add_comm]
      rcases Nat.lt_trichotomy i n with h | h | h
      · rw [Nat.testBit_two_pow_add_gt h, ih]; simp [h, Nat.lt_succ_of_lt h]
      · subst h; rw [Nat.testBit_two_pow_add_eq, ih]; simp [hp]
      · rw [tb_lt (n := n + 1) (by rw [Nat.pow_succ]; omega) h]; simp [Nat.not_lt.mpr h]
theorem bits_ext {a b n : Nat} (ha : a < 2 ^ n) (hb : b < 2 ^ n) (h : ∀ i, i < n → a.testBit i = b.testBit i) : a = b := by
  apply Nat.eq_of_testBit_eq
  intro i
  rcases Nat.lt_or_ge i n with q | q
  · exact h i q
  · rw [tb_lt ha q, tb_lt hb q]
def kid (D : Dt) (f c : Nat) : Bool := decide (1 ≤ c) && (decide (c < D 0 0) && decide (D 1 c = f))
def kids (D : Dt) (f S : Nat) : Nat := ct (fun c => kid D f c && S.testBit c) 12
def okAt (D : Dt) (S f : Nat) : Bool := (decide (f = 0) || S.testBit (D 1 f)) && (allb (fun c => !(kid D f c && decide (D 4 c = 1)) || S.testBit c) 12 && (decide (D 2 f ≤ kids D f S) && decide (kids D f S ≤ D 3 f)))
def treeOk (D : Dt) (S : Nat) : Bool := S.testBit 0 && allb (fun f => !S.testBit f || okAt D S f) (D 0 0)
def rok (D : Dt) (S r : Nat) : Bool := if D 5 r = 0 then !S.testBit (D 6 r) || S.testBit (D 7 r) else if D 5 r = 1 then !S.testBit (D 6 r) || !S.testBit (D 7 r) else S.testBit (D 6 r) || S.testBit (D 7 r) || S.testBit (D 8 r)
def rulesOk (D : Dt) (S : Nat) : Bool := allb (fun r => decide (D 9 r = 1) || rok D S r) (D 0 1)
def good (D : Dt) (S : Nat) : Bool := treeOk D S && rulesOk D S
/-- a completion of the decisions: i chosen, o refused -/
def cmpl (D : Dt) (i o S : Nat) : Bool := decide (adn i S = 0) && (decide (o &&& S = 0) && good D S)
/-- what holds of a model always -/
def WF (D : Dt) : Prop := (1 ≤ D 0 0 ∧ D 0 0 ≤ 12 ∧ D 0 1 ≤ 20 ∧ D 0 2 ≤ 6) ∧ (∀ f, 1 ≤ f → f < D 0 0 → D 1 f < f) ∧ (∀ f, f < 12 → D 2 f ≤ 12 ∧ D 3 f ≤ 12 ∧ D 4 f ≤ 1) ∧ (∀ f, D 0 0 ≤ f → f < 12 → D 2 f = 0 ∧ D 4 f = 0) ∧ (∀ r, r < D 0 1 → D 5 r ≤ 2 ∧ D 6 r < D 0 0 ∧ D 7 r < D 0 0 ∧ D 8 r < D 0 0 ∧ D 9 r ≤ 1 ∧ (D 5 r ≠ 2 → D 8 r = D 6 r) ∧ D 6 r ≠ D 7 r ∧ (D 5 r = 2 → D 6 r ≠ D 8 r ∧ D 7 r ≠ D 8 r)) ∧ (∀ f, f < D 0 0 → D 10 f ≤ 999) ∧ D 10 0 = 0 ∧ (∀ k, k < D 0 2 → D 11 k ≤ 2 ∧ D 14 k ≤ 999 ∧ (D 11 k = 0 → D 12 k < D 0 0 ∧ D 13 k < D 0 0) ∧ (D 11 k = 1 → D 14 k ≤ 100) ∧ (D 11 k = 2 → D 12 k ≤ 12))
