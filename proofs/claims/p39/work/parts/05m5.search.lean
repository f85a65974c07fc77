section Search
variable {D : Dt} {i o : Nat} {C : St}
/-- the step at g on the way to S -/
def stp (D : Dt) (ii oo g S : Nat) : Prop := if S.testBit g = true then canIn D oo g (S % 2 ^ g) else canOut D ii g (S % 2 ^ g)
def rest (D : Dt) (ii oo f s S : Nat) : Prop := S < 2 ^ D 0 0 ∧ S % 2 ^ f = s ∧ ∀ g, f ≤ g → g < D 0 0 → stp D ii oo g S
theorem mod_tb (S f j : Nat) : (S % 2 ^ f).testBit j = (decide (j < f) && S.testBit j) := Nat.testBit_mod_two_pow S f j
theorem mod_succ_in {S f s : Nat} (hs : s < 2 ^ f) : S % 2 ^ (f + 1) = s ||| 2 ^ f ↔ S % 2 ^ f = s ∧ S.testBit f = true := by
  constructor
  · intro h
    have ht : ∀ j, (S % 2 ^ (f + 1)).testBit j = (s ||| 2 ^ f).testBit j := fun j => by rw [h]
    constructor
    · refine Nat.eq_of_testBit_eq fun j => ?_
      have := ht j
      rw [mod_tb, Nat.testBit_or, tb_pow] at this
      rw [mod_tb]
      rcases Nat.lt_trichotomy j f with q | q | q
      · rw [decide_eq_true q, Bool.true_and]
        rw [decide_eq_true (show j < f + 1 by omega), Bool.true_and, decide_eq_false (show ¬ f = j by omega), Bool.or_false] at this
        exact this
      · rw [q, decide_eq_false (by omega), Bool.false_and, tb_lt hs (Nat.le_refl f)]
      · rw [decide_eq_false (by omega), Bool.false_and, tb_lt hs (by omega)]
    · have := ht f
      rw [mod_tb, Nat.testBit_or, tb_pow] at this
      simpa using this
  · intro ⟨h1, h2⟩
    refine Nat.eq_of_testBit_eq fun j => ?_
    rw [mod_tb, Nat.testBit_or, tb_pow, ← h1, mod_tb]
    rcases Nat.lt_trichotomy j f with q | q | q
    · rw [decide_eq_true q, decide_eq_true (show j < f + 1 by omega), decide_eq_false (show ¬ f = j by omega)]; simp
    · rw [q, h2]; simp
    · rw [decide_eq_false (show ¬ j < f + 1 by omega), decide_eq_false (show ¬ j < f by omega), decide_eq_false (show ¬ f = j by omega)]; rfl
theorem mod_succ_out {S f s : Nat} (hs : s < 2 ^ f) : S % 2 ^ (f + 1) = s ↔ S % 2 ^ f = s ∧ S.testBit f = false := by
  constructor
  · intro h
    have ht : ∀ j, (S % 2 ^ (f + 1)).testBit j = s.testBit j := fun j => by rw [h]
    constructor
    · refine Nat.eq_of_testBit_eq fun j => ?_
      have := ht j
      rw [mod_tb] at this
      rw [mod_tb]
      rcases Nat.lt_or_ge j f with q | q
      · rw [decide_eq_true q, Bool.true_and]
        rw [decide_eq_true (show j < f + 1 by omega), Bool.true_and] at this
        exact this
      · rw [decide_eq_false (by omega), Bool.false_and, tb_lt hs q]
    · have := ht f
      rw [mod_tb, tb_lt hs (Nat.le_refl f)] at this
      simpa using this
  · intro ⟨h1, h2⟩
    refine Nat.eq_of_testBit_eq fun j => ?_
    rw [mod_tb, ← h1, mod_tb]
    rcases Nat.lt_trichotomy j f with q | q | q
    · rw [decide_eq_true q, decide_eq_true (show j < f + 1 by omega)]
    · rw [q, h2]; simp
    · rw [decide_eq_false (show ¬ j < f + 1 by omega), decide_eq_false (show ¬ j < f by omega)]
theorem rest_split {ii oo f s S : Nat} (hf : f < D 0 0) (hs : s < 2 ^ f) : rest D ii oo f s S ↔ (canOut D ii f s ∧ rest D ii oo (f + 1) s S) ∨ (canIn D oo f s ∧ rest D ii oo (f + 1) (s ||| 2 ^ f) S) := by
  constructor
  · intro ⟨h1, h2, h3⟩
    have h4 := h3 f (Nat.le_refl f) hf
    unfold stp at h4
    rw [h2] at h4
    cases hb : S.testBit f with
    | true =>
      rw [if_pos hb] at h4
      exact Or.inr ⟨h4, h1, (mod_succ_in hs).mpr ⟨h2, hb⟩, fun g q => h3 g (by omega)⟩
    | false =>
      rw [if_neg (by rw [hb]; decide)] at h4
      exact Or.inl ⟨h4, h1, (mod_succ_out hs).mpr ⟨h2, hb⟩, fun g q => h3 g (by omega)⟩
  · intro h
    rcases h with ⟨h4, h1, h2, h3⟩ | ⟨h4, h1, h2, h3⟩
    · obtain ⟨h2, hb⟩ := (mod_succ_out hs).mp h2
      refine ⟨h1, h2, fun g q r => ?_⟩
      rcases Nat.eq_or_lt_of_le q with e | e
      · subst e; unfold stp; rw [if_neg (by rw [hb]; decide), h2]; exact h4
      · exact h3 g e r
    · obtain ⟨h2, hb⟩ := (mod_succ_in hs).mp h2
      refine ⟨h1, h2, fun g q r => ?_⟩
      rcases Nat.eq_or_lt_of_le q with e | e
      · subst e; unfold stp; rw [if_pos hb, h2]; exact h4
      · exact h3 g e r
theorem rest_end {ii oo s S : Nat} (hs : s < 2 ^ D 0 0) : rest D ii oo (D 0 0) s S ↔ S = s := by
  constructor
  · intro ⟨h1, h2, _⟩
    rw [Nat.mod_eq_of_lt h1] at h2; exact h2
  · intro h; subst h
    exact ⟨hs, Nat.mod_eq_of_lt hs, fun g q r => by omega⟩
theorem lt_succ_pow {s f : Nat} (h : s < 2 ^ f) : s < 2 ^ (f + 1) := Nat.lt_of_lt_of_le h (Nat.pow_le_pow_right (by decide) (by omega))
theorem or_lt' {s f : Nat} (h : s < 2 ^ f) : s ||| 2 ^ f < 2 ^ (f + 1) := Nat.or_lt_two_pow (lt_succ_pow h) (Nat.pow_lt_pow_right (by decide) (by omega))
theorem lt_pow_n {s f n : Nat} (h : s < 2 ^ f) (hf : f ≤ n) : s < 2 ^ n := Nat.lt_of_lt_of_le h (Nat.pow_le_pow_right (by decide) hf)
theorem cReaches (h : RelC D i o C) (w : WF D) {ii oo : Nat} (hi : ii < 2 ^ 12) (ho : oo < 2 ^ 12) : ∀ n f s, f ≤ D 0 0 → D 0 0 < f + n → s < 2 ^ f → isB (pX4_reaches n C (nI f) (nI s) (nI ii) (nI oo)) (∃ S, rest D ii oo f s S) := by
  obtain ⟨n1, n2⟩ := w.n
  intro n
  induction n with
  | zero => intro f s h1 h2; omega
  | succ n ih =>
    intro f s h1 h2 hs
    show isB (pX4_reaches_e (pX4_reaches n) C (nI f) (nI s) (nI ii) (nI oo)) _
    unfold pX4_reaches_e
    rw [h.n]
    refine if_isB (fun c1 => ?_) (fun c1 => isB_t ?_)
    · have hf := (nI_ltI (by omega) (by omega)).mp c1
      simp only [ltv]
      have go : isB (pX4_reaches_45 (pX4_reaches n) C (nI f) (nI s) (nI ii) (nI oo) (nI s ||| (1 : Int32) <<< (nI f &&& 31))) (canIn D oo f s ∧ ∃ S, rest D ii oo (f + 1) (s ||| 2 ^ f) S) := by
        unfold pX4_reaches_45
        refine bd_isB (cCanTake h w ho hf (lt_pow_n hs h1)) (fun q => ?_) (fun q => ?_)
        · rw [if0_1, nI_1, nI_sh f (by omega), nI_lor]
          refine bd_isB (ih (f + 1) (s ||| 2 ^ f) hf (by omega) (or_lt' hs)) (fun z => ?_) (fun z => ?_)
          · rw [if0_1]; exact isB_t ⟨q, z⟩
          · rw [if0_0]; exact isB_f fun y => z y.2
        · rw [if0_0]; exact isB_f fun y => q y.1
      have e : (∃ S, rest D ii oo f s S) ↔ (canOut D ii f s ∧ ∃ S, rest D ii oo (f + 1) s S) ∨ (canIn D oo f s ∧ ∃ S, rest D ii oo (f + 1) (s ||| 2 ^ f) S) := by
        constructor
        · intro ⟨S, hS⟩
          rcases (rest_split hf hs).mp hS with ⟨a, b⟩ | ⟨a, b⟩
          · exact Or.inl ⟨a, S, b⟩
          · exact Or.inr ⟨a, S, b⟩
        · intro q
          rcases q with ⟨a, S, b⟩ | ⟨a, S, b⟩
          · exact ⟨S, (rest_split hf hs).mpr (Or.inl ⟨a, b⟩)⟩
          · exact ⟨S, (rest_split hf hs).mpr (Or.inr ⟨a, b⟩)⟩
      refine bd_isB (cCanLeave h w hi hf (lt_pow_n hs h1)) (fun q => ?_) (fun q => ?_)
      · rw [if0_1, nI_1]
        refine bd_isB (ih (f + 1) s hf (by omega) (lt_succ_pow hs)) (fun z => ?_) (fun z => ?_)
        · rw [if0_1]; exact isB_t (e.mpr (Or.inl ⟨q, z⟩))
        · rw [if0_0]
          exact go.congr ⟨fun y => e.mpr (Or.inr y), fun y => (e.mp y).elim (fun y => absurd y.2 z) id⟩
      · rw [if0_0]
        exact go.congr ⟨fun y => e.mpr (Or.inr y), fun y => (e.mp y).elim (fun y => absurd y.1 q) id⟩
    · have hf : f = D 0 0 := by
        rcases Nat.lt_or_ge f (D 0 0) with q | q
        · exact absurd ((nI_ltI (by omega) (by omega)).mpr q) c1
        · omega
      subst hf
      exact ⟨s, (rest_end hs).mpr rfl⟩
end Search
