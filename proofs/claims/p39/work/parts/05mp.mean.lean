/-! ===== the mean price ===== -/
section Mean
variable {D : Dt} {i o : Nat} {C M : St}
theorem bm {x : Int} (h1 : -2147483648 ≤ x) (h2 : x < 2147483648) : Int.bmod x (2 ^ 32) = x := by
  unfold Int.bmod
  simp only [show (((2 ^ 32 : Nat) : Int)) = 4294967296 from rfl]
  have : (4294967296 + 1 : Int) / 2 = 2147483648 := by decide
  rw [this]
  split <;> omega
theorem bm64 {x : Int} (h1 : -9223372036854775808 ≤ x) (h2 : x < 9223372036854775808) : Int.bmod x (2 ^ 64) = x := by
  unfold Int.bmod
  simp only [show (((2 ^ 64 : Nat) : Int)) = 18446744073709551616 from rfl]
  have : (18446744073709551616 + 1 : Int) / 2 = 9223372036854775808 := by decide
  rw [this]
  split <;> omega
theorem iadd {a b : Int32} (h1 : -2147483648 ≤ a.toInt + b.toInt) (h2 : a.toInt + b.toInt < 2147483648) : (a + b).toInt = a.toInt + b.toInt := by
  rw [Int32.toInt_add]; exact bm h1 h2
theorem isub {a b : Int32} (h1 : -2147483648 ≤ a.toInt - b.toInt) (h2 : a.toInt - b.toInt < 2147483648) : (a - b).toInt = a.toInt - b.toInt := by
  rw [Int32.toInt_sub]; exact bm h1 h2
theorem imul {a b : Int32} (h1 : -2147483648 ≤ a.toInt * b.toInt) (h2 : a.toInt * b.toInt < 2147483648) : (a * b).toInt = a.toInt * b.toInt := by
  rw [Int32.toInt_mul]; exact bm h1 h2
theorem idiv100 {a : Int32} : (a / 100).toInt = a.toInt.tdiv 100 := by
  have h := Int32.toInt_div a 100
  rw [show (100 : Int32).toInt = 100 by decide] at h
  rw [h]
  have l := Int32.le_toInt a
  have u := Int32.toInt_lt a
  rcases Int.le_total 0 a.toInt with hx | hx
  · rw [Int.tdiv_eq_ediv_of_nonneg hx]
    exact bm (by omega) (by omega)
  · obtain ⟨y, hy⟩ : ∃ y, a.toInt = -y := ⟨-a.toInt, by omega⟩
    rw [hy, Int.neg_tdiv, Int.tdiv_eq_ediv_of_nonneg (by omega)]
    exact bm (by omega) (by omega)
theorem td_bd {x a : Int} {B : Int} (ha : 0 ≤ a) (ha2 : a ≤ 100) (h1 : -B ≤ x) (h2 : x ≤ B) : -B ≤ x - (x * a).tdiv 100 ∧ x - (x * a).tdiv 100 ≤ B := by
  rcases Int.le_total 0 x with hx | hx
  · have m1 : 0 ≤ x * a := Int.mul_nonneg hx ha
    have m2 : x * a ≤ x * 100 := Int.mul_le_mul_of_nonneg_left ha2 hx
    rw [Int.tdiv_eq_ediv_of_nonneg m1]
    omega
  · obtain ⟨y, rfl⟩ : ∃ y, x = -y := ⟨-x, by omega⟩
    have hy : 0 ≤ y := by omega
    have m1 : 0 ≤ y * a := Int.mul_nonneg hy ha
    have m2 : y * a ≤ y * 100 := Int.mul_le_mul_of_nonneg_left ha2 hy
    rw [Int.neg_mul, Int.neg_tdiv, Int.tdiv_eq_ediv_of_nonneg m1]
    omega
theorem sum_bd (w : WF D) {S : Nat} : ∀ k, k ≤ D 0 0 → 0 ≤ (sumI D S k).toInt ∧ (sumI D S k).toInt ≤ 999 * k
  | 0, _ => by
    have : (sumI D S 0).toInt = 0 := rfl
    omega
  | k + 1, h => by
    have n2 := w.n.2
    obtain ⟨a, b⟩ := sum_bd w (S := S) k (by omega)
    have hp := w.2.2.2.2.2.1 k (by omega)
    have e : (nI (D 10 k)).toInt = D 10 k := nI_toInt (by omega)
    rw [sumI_s]
    split
    · rw [iadd (by omega) (by omega), e]; omega
    · omega
theorem lay_bd (w : WF D) {S k : Nat} (hk : k < D 0 2) {x : Int32} {B : Int} (hB : B ≤ 100000) (h1 : -B ≤ x.toInt) (h2 : x.toInt ≤ B) : -(B + 11988) ≤ (layI D S k x).toInt ∧ (layI D S k x).toInt ≤ B + 11988 := by
  obtain ⟨l1, l2, l3, l4, l5⟩ := w.ly hk
  have e : (nI (D 14 k)).toInt = D 14 k := nI_toInt (by omega)
  unfold layI
  split
  · split
    · rw [isub (by omega) (by omega), e]; omega
    · omega
  · rename_i q0
    split
    · rename_i q1
      have l4 := l4 q1
      have m1 : (x * nI (D 14 k)).toInt = x.toInt * D 14 k := by
        have : -(B * 100) ≤ x.toInt * D 14 k ∧ x.toInt * D 14 k ≤ B * 100 := by
          rcases Int.le_total 0 x.toInt with hx | hx
          · have a1 : 0 ≤ x.toInt * (D 14 k : Int) := Int.mul_nonneg hx (by omega)
            have a2 : x.toInt * (D 14 k : Int) ≤ x.toInt * 100 := Int.mul_le_mul_of_nonneg_left (by omega) hx
            omega
          · obtain ⟨y, hy⟩ : ∃ y, x.toInt = -y := ⟨-x.toInt, by omega⟩
            rw [hy, Int.neg_mul]
            have a1 : 0 ≤ y * (D 14 k : Int) := Int.mul_nonneg (by omega) (by omega)
            have a2 : y * (D 14 k : Int) ≤ y * 100 := Int.mul_le_mul_of_nonneg_left (by omega) (by omega)
            omega
        rw [imul (by rw [e]; omega) (by rw [e]; omega), e]
      have t := td_bd (x := x.toInt) (a := D 14 k) (B := B) (by omega) (by omega) h1 h2
      have d1 : (x * nI (D 14 k) / 100).toInt = (x.toInt * D 14 k).tdiv 100 := by rw [idiv100, m1]
      rw [isub (by rw [d1]; omega) (by rw [d1]; omega), d1]
      omega
    · rename_i q1
      have l5 := l5 (by omega)
      have hp := pop_le S
      have m0 : ∃ t : Nat, t ≤ 12 ∧ (if 0 < nI (pop S) - nI (D 12 k) then nI (pop S) - nI (D 12 k) else 0) = nI t := by
        have hs : (nI (pop S) - nI (D 12 k)).toInt = (pop S : Int) - D 12 k := pk_sub_toInt (by omega) (by omega)
        by_cases z : D 12 k < pop S
        · refine ⟨pop S - D 12 k, by omega, ?_⟩
          rw [if_pos (ilt.mpr (by rw [hs]; have : (0 : Int32).toInt = 0 := by decide
                                  omega))]
          exact pk_sub (by omega)
        · refine ⟨0, by omega, ?_⟩
          rw [if_neg (fun q => by
            have := ilt.mp q
            rw [hs] at this
            have e0 : (0 : Int32).toInt = 0 := by decide
            omega)]
          rfl
      obtain ⟨t, t1, t2⟩ := m0
      rw [t2, pk_mul]
      have hm : D 14 k * t ≤ 999 * 12 := Nat.mul_le_mul (by omega) t1
      have em : (nI (D 14 k * t)).toInt = ((D 14 k * t : Nat) : Int) := nI_toInt (by omega)
      rw [iadd (by rw [em]; omega) (by rw [em]; omega), em]
      omega
theorem lays_bd (w : WF D) {S : Nat} : ∀ k, k ≤ D 0 2 → -(11988 * ((k : Int) + 1)) ≤ (laysI D S k).toInt ∧ (laysI D S k).toInt ≤ 11988 * ((k : Int) + 1)
  | 0, _ => by
    have := sum_bd w (S := S) (D 0 0) (Nat.le_refl _)
    have n2 := w.n.2
    show -(11988 * (((0 : Nat) : Int) + 1)) ≤ (sumI D S (D 0 0)).toInt ∧ (sumI D S (D 0 0)).toInt ≤ _
    omega
  | k + 1, h => by
    have la := w.la
    obtain ⟨a, b⟩ := lays_bd w (S := S) k (by omega)
    have := lay_bd w (S := S) (k := k) (by omega) (B := 11988 * ((k : Int) + 1)) (by omega) a b
    show -(11988 * (((k + 1 : Nat) : Int) + 1)) ≤ (layI D S k (laysI D S k)).toInt ∧ (layI D S k (laysI D S k)).toInt ≤ _
    omega
theorem price_bd (w : WF D) (S : Nat) : -83916 ≤ (priceI D S).toInt ∧ (priceI D S).toInt ≤ 83916 := by
  have := lays_bd w (S := S) (D 0 2) (Nat.le_refl _)
  have la := w.la
  unfold priceI
  omega
/-- the sum of the prices of all completions, as a whole number -/
def sumZ (D : Dt) (p : Nat → Bool) : Nat → Int
  | 0 => 0
  | n + 1 => sumZ D p n + (if p n then (priceI D n).toInt else 0)
theorem sumZ_s (p : Nat → Bool) (n : Nat) : sumZ D p (n + 1) = sumZ D p n + (if p n then (priceI D n).toInt else 0) := rfl
theorem sumZ_bd (w : WF D) (p : Nat → Bool) : ∀ n : Nat, -(83916 * (n : Int)) ≤ sumZ D p n ∧ sumZ D p n ≤ 83916 * (n : Int)
  | 0 => by
    have : sumZ D p 0 = 0 := rfl
    omega
  | n + 1 => by
    have := sumZ_bd w p n
    have q := price_bd w n
    rw [sumZ_s]
    split <;> omega
end Mean
