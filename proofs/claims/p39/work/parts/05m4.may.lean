section CompMay
variable {D : Dt} {i o : Nat} {C : St}
theorem ct_add (p : Nat → Bool) (m : Nat) : ∀ n, ct p (m + n) = ct p m + ct (fun i => p (m + i)) n
  | 0 => rfl
  | n + 1 => by
    show ct p (m + n) + (if p (m + n) then 1 else 0) = ct p m + (ct (fun i => p (m + i)) n + (if p (m + n) then 1 else 0))
    rw [ct_add p m n]; omega
theorem ct_zero {p : Nat → Bool} : ∀ {n : Nat}, (∀ k, k < n → p k = false) → ct p n = 0
  | 0, _ => rfl
  | n + 1, h => by unfold ct; rw [ct_zero (fun k hk => h k (by omega)), h n (by omega)]; rfl
def nk (D : Dt) (f : Nat) : Nat := ct (kid D f) 12
/-- children of p behind f -/
def kidsB (D : Dt) (p f : Nat) : Nat := ct (fun c => kid D p c && decide (f < c)) 12
theorem nkE (D : Dt) (f : Nat) : ct (fun i => (kidM D f).testBit i) 12 = nk D f := by
  unfold nk
  refine ct_cong fun k hk => ?_
  rw [kidM_tb, decide_eq_true hk, Bool.true_and]
theorem kidsBE (D : Dt) (p : Nat) {f : Nat} (hf : f < 12) : ct (fun i => (kidM D p / 2 ^ (f + 1)).testBit i) 12 = kidsB D p f := by
  have e1 : ct (fun i => (kidM D p / 2 ^ (f + 1)).testBit i) 12 = ct (fun i => (kidM D p).testBit (f + 1 + i)) 12 := ct_cong fun k _ => by
    rw [Nat.testBit_div_two_pow, Nat.add_comm]
  have e2 : ct (fun i => (kidM D p).testBit (f + 1 + i)) 12 = ct (fun i => (kidM D p).testBit (f + 1 + i)) (11 - f) := by
    have z : ct (fun i => (kidM D p).testBit (f + 1 + (11 - f + i))) (f + 1) = 0 := ct_zero fun k _ => tb_lt (kidM_lt D p) (by omega)
    calc ct (fun i => (kidM D p).testBit (f + 1 + i)) 12 = ct (fun i => (kidM D p).testBit (f + 1 + i)) ((11 - f) + (f + 1)) := by rw [show (11 - f) + (f + 1) = 12 by omega]
      _ = ct (fun i => (kidM D p).testBit (f + 1 + i)) (11 - f) + ct (fun i => (kidM D p).testBit (f + 1 + (11 - f + i))) (f + 1) := ct_add _ _ _
      _ = ct (fun i => (kidM D p).testBit (f + 1 + i)) (11 - f) := by rw [z]; rfl
  have e3 : kidsB D p f = ct (fun c => kid D p c && decide (f < c)) (f + 1 + (11 - f)) := by
    unfold kidsB
    rw [show f + 1 + (11 - f) = 12 by omega]
  rw [e1, e2, e3, ct_add, ct_zero (n := f + 1) (fun k hk => by rw [decide_eq_false (by omega), Bool.and_false]), Nat.zero_add]
  refine ct_cong fun k hk => ?_
  rw [kidM_tb, decide_eq_true (show f + 1 + k < 12 by omega), Bool.true_and, decide_eq_true (show f < f + 1 + k by omega), Bool.and_true]
def mayIn (D : Dt) (f S : Nat) : Prop := D 2 f ≤ nk D f ∧ (f = 0 ∨ (S.testBit (D 1 f) = true ∧ kids D (D 1 f) S < D 3 (D 1 f)))
def mayOut (D : Dt) (f S : Nat) : Prop := f ≠ 0 ∧ (¬ S.testBit (D 1 f) = true ∨ (¬ D 4 f = 1 ∧ D 2 (D 1 f) ≤ kids D (D 1 f) S + kidsB D (D 1 f) f))
theorem nk_le {f : Nat} : nk D f ≤ 12 := ct_le _ _
theorem kidsB_le {p f : Nat} : kidsB D p f ≤ 12 := ct_le _ _
theorem cMayBeIn (h : RelC D i o C) (w : WF D) {f S : Nat} (hf : f < D 0 0) (hS : S < 2 ^ D 0 0) : isB (pX5_mayBeIn C (nI f) (nI S)) (mayIn D f S) := by
  obtain ⟨n1, n2⟩ := w.n
  have f12 : f < 12 := by omega
  obtain ⟨g1, g2, -⟩ := w.g f12
  have hnk := nk_le (D := D) (f := f)
  unfold pX5_mayBeIn
  simp only [ltv, gd_ix f12, nI_clp (show f < 2 ^ 31 by omega), h.k f12, h.lo f12]
  rw [bd_t (bitCnt (kidM_lt D f)), nkE]
  refine if_isB (fun c1 => ?_) (fun c1 => isB_f fun q => c1 ((nI_leI (by omega) (by omega)).mpr q.1))
  have c1 := (nI_leI (by omega) (by omega)).mp c1
  rcases Nat.eq_zero_or_pos f with h0 | h0
  · subst h0
    rw [h.p0, if_pos (by decide)]
    exact isB_t ⟨c1, Or.inl rfl⟩
  · have hp := w.p h0 hf
    have p12' : D 1 f < 12 := by omega
    have g3 := (w.g p12').2.1
    have hk := kids_le (D := D) (f := D 1 f) (S := S)
    rw [h.p h0 hf, if_neg (nI_pos (by omega))]
    refine bd_isB (cHasB C (p31 hS (by omega)) (by omega)) (fun q => ?_) (fun q => ?_)
    · simp only [if0_1, gd_ix p12', nI_clp (show D 1 f < 2 ^ 31 by omega), h.k p12', h.hi (show D 1 f < D 0 0 by omega)]
      rw [nI_land, bd_t (bitCnt (and_lt (kidM_lt D _))), kidsE]
      refine if_isB (fun c2 => isB_f fun z => ?_) (fun c2 => isB_t ⟨c1, Or.inr ⟨q, ?_⟩⟩)
      · have c2 := (nI_leI (by omega) (by omega)).mp c2
        rcases z.2 with z | z <;> omega
      · rcases Nat.lt_or_ge (kids D (D 1 f) S) (D 3 (D 1 f)) with z | z
        · exact z
        · exact absurd ((nI_leI (by omega) (by omega)).mpr z) c2
    · rw [if0_0]
      exact isB_f fun z => z.2.elim (fun z => by omega) (fun z => q z.1)
theorem cMayBeOut (h : RelC D i o C) (w : WF D) {f S : Nat} (hf : f < D 0 0) (hS : S < 2 ^ D 0 0) : isB (pX5_mayBeOut C (nI f) (nI S)) (mayOut D f S) := by
  obtain ⟨n1, n2⟩ := w.n
  have f12 : f < 12 := by omega
  unfold pX5_mayBeOut
  simp only [ltv, gd_ix f12, nI_clp (show f < 2 ^ 31 by omega)]
  rcases Nat.eq_zero_or_pos f with h0 | h0
  · subst h0
    rw [h.p0, if_neg (by decide)]
    exact isB_f fun z => z.1 rfl
  · have hp := w.p h0 hf
    have p12' : D 1 f < 12 := by omega
    have g3 := (w.g p12').1
    have hk := kids_le (D := D) (f := D 1 f) (S := S)
    have hk2 := kidsB_le (D := D) (p := D 1 f) (f := f)
    rw [h.p h0 hf, if_pos (nI_pos' (by omega))]
    refine bd_isB (cHasB C (p31 hS (by omega)) (by omega)) (fun q => ?_) (fun q => ?_)
    · rw [if0_1]
      simp only [gd_ix p12', nI_clp (show D 1 f < 2 ^ 31 by omega), h.k p12', h.md, h.lo p12', nI_1]
      have hkl : kidM D (D 1 f) < 2 ^ 31 := Nat.lt_of_lt_of_le (kidM_lt D _) (by decide)
      rw [nI_land, bd_t (bitCnt (and_lt (kidM_lt D _))), kidsE, nI_shr hkl (by omega), bd_t (bitCnt (Nat.lt_of_le_of_lt (Nat.div_le_self _ _) (kidM_lt D _))), kidsBE D _ f12]
      refine bd_isB (cHasB C (Nat.lt_of_lt_of_le (mandM_lt D) (by decide)) (by omega)) (fun z => ?_) (fun z => ?_)
      · rw [if0_1]
        rw [mandM_tb, decide_eq_true f12, Bool.true_and, decide_eq_true_iff] at z
        exact isB_f fun y => y.2.elim (fun y => y q) (fun y => y.1 z)
      · rw [if0_0]
        rw [mandM_tb, decide_eq_true f12, Bool.true_and, decide_eq_true_iff] at z
        rw [nI_add]
        refine if_isB (fun c2 => isB_f fun y => ?_) (fun c2 => isB_t ⟨by omega, Or.inr ⟨z, ?_⟩⟩)
        · have c2 := (nI_ltI (by omega) (by omega)).mp c2
          rcases y.2 with y | y
          · exact y q
          · omega
        · rcases Nat.lt_or_ge (kids D (D 1 f) S + kidsB D (D 1 f) f) (D 2 (D 1 f)) with y | y
          · exact absurd ((nI_ltI (by omega) (by omega)).mpr y) c2
          · exact y
    · rw [if0_0]
      exact isB_t ⟨by omega, Or.inl q⟩
def canIn (D : Dt) (o f S : Nat) : Prop := ¬ o.testBit f = true ∧ mayIn D f S ∧ rAt D f (S ||| 2 ^ f)
def canOut (D : Dt) (i f S : Nat) : Prop := ¬ i.testBit f = true ∧ mayOut D f S ∧ rAt D f S
theorem or_lt {S f n : Nat} (hS : S < 2 ^ n) (hf : f < n) : S ||| 2 ^ f < 2 ^ n := Nat.or_lt_two_pow hS (Nat.pow_lt_pow_right (by decide) hf)
theorem cCanTake (h : RelC D i o C) (w : WF D) {f S oo : Nat} (ho : oo < 2 ^ 12) (hf : f < D 0 0) (hS : S < 2 ^ D 0 0) : isB (pX4_canTake C (nI f) (nI S) (nI oo)) (canIn D oo f S) := by
  obtain ⟨n1, n2⟩ := w.n
  unfold pX4_canTake
  refine bd_isB (cHasB C (Nat.lt_of_lt_of_le ho (by decide)) (by omega)) (fun q => ?_) (fun q => ?_)
  · rw [if0_1]; exact isB_f fun z => z.1 q
  · rw [if0_0]
    refine bd_isB (cMayBeIn h w hf hS) (fun z => ?_) (fun z => ?_)
    · rw [if0_1, nI_sh f (by omega), nI_lor]
      refine bd_isB (cHoldAt h w (by omega)) (fun y => ?_) (fun y => ?_)
      · rw [if0_1]; exact isB_t ⟨q, z, y⟩
      · rw [if0_0]; exact isB_f fun x => y x.2.2
    · rw [if0_0]; exact isB_f fun x => z x.2.1
theorem cCanLeave (h : RelC D i o C) (w : WF D) {f S ii : Nat} (hi : ii < 2 ^ 12) (hf : f < D 0 0) (hS : S < 2 ^ D 0 0) : isB (pX4_canLeave C (nI f) (nI S) (nI ii)) (canOut D ii f S) := by
  obtain ⟨n1, n2⟩ := w.n
  unfold pX4_canLeave
  refine bd_isB (cHasB C (Nat.lt_of_lt_of_le hi (by decide)) (by omega)) (fun q => ?_) (fun q => ?_)
  · rw [if0_1]; exact isB_f fun z => z.1 q
  · rw [if0_0]
    refine bd_isB (cMayBeOut h w hf hS) (fun z => ?_) (fun z => ?_)
    · rw [if0_1]
      refine bd_isB (cHoldAt h w (by omega)) (fun y => ?_) (fun y => ?_)
      · rw [if0_1]; exact isB_t ⟨q, z, y⟩
      · rw [if0_0]; exact isB_f fun x => y x.2.2
    · rw [if0_0]; exact isB_f fun x => z x.2.1
end CompMay
