/-! ===== counting the bits of 20 ===== -/
theorem sp8 {a b : Nat} (ha : a < 256) (j : Nat) : (256 * b + a).testBit j = if j < 8 then a.testBit j else b.testBit (j - 8) := Nat.testBit_two_pow_mul_add (i := 8) b ha j
theorem land8 {a b m n : Nat} (ha : a < 256) (hm : m < 256) : (256 * b + a) &&& (256 * n + m) = 256 * (b &&& n) + (a &&& m) := by
  refine Nat.eq_of_testBit_eq fun j => ?_
  rw [Nat.testBit_and, sp8 ha, sp8 hm, sp8 (Nat.lt_of_le_of_lt Nat.and_le_left ha), Nat.testBit_and, Nat.testBit_and]
  split <;> rfl
theorem shr8 {a b m n k : Nat} (ha : a < 256) (hk : k ≤ 8) (hm : m < 2 ^ (8 - k)) : (256 * b + a) / 2 ^ k &&& (256 * n + m) = 256 * (b / 2 ^ k &&& n) + (a / 2 ^ k &&& m) := by
  have hm8 : m < 256 := Nat.lt_of_lt_of_le hm (show 2 ^ (8 - k) ≤ 2 ^ 8 from Nat.pow_le_pow_right (by decide) (by omega))
  have ha8 : a / 2 ^ k < 256 := Nat.lt_of_le_of_lt (Nat.div_le_self _ _) ha
  refine Nat.eq_of_testBit_eq fun j => ?_
  rw [Nat.testBit_and, Nat.testBit_div_two_pow, sp8 ha, sp8 hm8, sp8 (Nat.lt_of_le_of_lt Nat.and_le_left ha8), Nat.testBit_and, Nat.testBit_and, Nat.testBit_div_two_pow, Nat.testBit_div_two_pow]
  by_cases h : j < 8
  · rw [if_pos h, if_pos h]
    by_cases g : j < 8 - k
    · rw [if_pos (by omega)]
    · rw [tb_lt hm (by omega), Bool.and_false, Bool.and_false]
  · rw [if_neg h, if_neg h, if_neg (by omega), show j + k - 8 = j - 8 + k by omega]
def q1 (x : Nat) : Nat := x - (x / 2 ^ 1 &&& 0x55)
def q2 (x : Nat) : Nat := (x &&& 0x33) + (x / 2 ^ 2 &&& 0x33)
theorem by1 : ∀ a, a < 256 → (a / 2 ^ 1 &&& 0x55) ≤ a ∧ q1 a < 256 ∧ q2 (q1 a) % 16 ≤ 4 ∧ q2 (q1 a) / 16 ≤ 4 ∧ q2 (q1 a) % 16 + q2 (q1 a) / 16 = ct (fun i => a.testBit i) 8 := by decide +kernel
theorem ush {x k : Nat} (hx : x < 2 ^ 31) (hk : (((nI k).toUInt32 &&& Int32.toUInt32 31).toBitVec % 32).toNat = k) : (((nI x).toUInt32 >>> ((nI k).toUInt32 &&& Int32.toUInt32 31)).toInt32) = nI (x / 2 ^ k) := pk_ushrN (by omega) _ _ hk
theorem bc20 {x : Nat} (hx : x < 2 ^ 20) : pJ6_bitCount_0f7a4 (nI x) = some (nI (ct (fun i => x.testBit i) 24)) := by
  obtain ⟨a, b, c, ha, hb, hc, rfl⟩ : ∃ a b c, a < 256 ∧ b < 256 ∧ c < 256 ∧ x = 256 * (256 * c + b) + a := ⟨x % 256, x / 256 % 256, x / 65536, by omega, by omega, by omega, by omega⟩
  have hc16 : c < 16 := by omega
  obtain ⟨a1, a2, a3, a4, a5⟩ := by1 a ha
  obtain ⟨b1, b2, b3, b4, b5⟩ := by1 b hb
  obtain ⟨c1, c2, c3, c4, c5⟩ := by1 c hc
  have u1 := fun x hx => ush (x := x) (k := 1) hx (by decide +kernel)
  have u2 := fun x hx => ush (x := x) (k := 2) hx (by decide +kernel)
  have u4 := fun x hx => ush (x := x) (k := 4) hx (by decide +kernel)
  have u8 := fun x hx => ush (x := x) (k := 8) hx (by decide +kernel)
  have u16 := fun x hx => ush (x := x) (k := 16) hx (by decide +kernel)
  unfold pJ6_bitCount_0f7a4
  simp only [ltv]
  have s1 : nI (256 * (256 * c + b) + a) - (((nI (256 * (256 * c + b) + a)).toUInt32 >>> ((1 : Int32).toUInt32 &&& Int32.toUInt32 31)).toInt32 &&& 1431655765) = nI (256 * (256 * q1 c + q1 b) + q1 a) := by
    rw [show (1 : Int32) = nI 1 from rfl, u1 _ (by omega), show (1431655765 : Int32) = nI (256 * (256 * (256 * 0x55 + 0x55) + 0x55) + 0x55) from rfl, nI_land, shr8 ha (by decide) (by decide), shr8 hb (by decide) (by decide)]
    have cc : c / 2 ^ 1 &&& (256 * 0x55 + 0x55) = c / 2 ^ 1 &&& 0x55 := by
      have := shr8 (a := c) (b := 0) (n := 0x55) (m := 0x55) (k := 1) hc (by decide) (by decide)
      simpa using this
    rw [cc, pk_sub (by omega)]
    congr 1
    unfold q1
    omega
  rw [s1]
  have s2 : (nI (256 * (256 * q1 c + q1 b) + q1 a) &&& 858993459) + (((nI (256 * (256 * q1 c + q1 b) + q1 a)).toUInt32 >>> ((2 : Int32).toUInt32 &&& Int32.toUInt32 31)).toInt32 &&& 858993459) = nI (256 * (256 * q2 (q1 c) + q2 (q1 b)) + q2 (q1 a)) := by
    rw [show (2 : Int32) = nI 2 from rfl, u2 _ (by omega), show (858993459 : Int32) = nI (256 * (256 * (256 * 0x33 + 0x33) + 0x33) + 0x33) from rfl, nI_land, nI_land, shr8 a2 (by decide) (by decide), shr8 b2 (by decide) (by decide), land8 a2 (by decide), land8 b2 (by decide), nI_add]
    have c8 : ∀ y, y < 256 → y &&& (256 * 0x33 + 0x33) = y &&& 0x33 := fun y hy => by
      have := land8 (a := y) (b := 0) (n := 0x33) (m := 0x33) hy (by decide)
      simpa using this
    have cc : q1 c / 2 ^ 2 &&& (256 * 0x33 + 0x33) = q1 c / 2 ^ 2 &&& 0x33 := c8 _ (Nat.lt_of_le_of_lt (Nat.div_le_self _ _) c2)
    rw [cc, c8 _ c2]
    congr 1
    unfold q2
    omega
  rw [s2]
  generalize q2 (q1 a) = A at a3 a4 a5 ⊢
  generalize q2 (q1 b) = B at b3 b4 b5 ⊢
  generalize q2 (q1 c) = Q at c3 c4 c5 ⊢
  have ct3 : ct (fun i => (256 * (256 * c + b) + a).testBit i) 24 = (A % 16 + A / 16) + ((B % 16 + B / 16) + (Q % 16 + Q / 16)) := by
    rw [a5, b5, c5, show (24 : Nat) = 8 + (8 + 8) from rfl, ct_add, ct_add]
    have e1 : ct (fun i => (256 * (256 * c + b) + a).testBit i) 8 = ct (fun i => a.testBit i) 8 := ct_cong fun k hk => by rw [sp8 ha, if_pos hk]
    have e2 : ct (fun i => (fun i => (256 * (256 * c + b) + a).testBit i) (8 + i)) 8 = ct (fun i => b.testBit i) 8 := ct_cong fun k hk => by
      show (256 * (256 * c + b) + a).testBit (8 + k) = b.testBit k
      rw [sp8 ha, if_neg (by omega), show 8 + k - 8 = k by omega, sp8 hb, if_pos hk]
    have e3 : ct (fun i => (fun i => (fun i => (256 * (256 * c + b) + a).testBit i) (8 + i)) (8 + i)) 8 = ct (fun i => c.testBit i) 8 := ct_cong fun k hk => by
      show (256 * (256 * c + b) + a).testBit (8 + (8 + k)) = c.testBit k
      rw [sp8 ha, if_neg (by omega), show 8 + (8 + k) - 8 = 8 + k by omega, sp8 hb, if_neg (by omega), show 8 + k - 8 = k by omega]
    rw [← e1, ← e2, ← e3]
  rw [ct3]
  have s3 : (nI (256 * (256 * Q + B) + A) + ((nI (256 * (256 * Q + B) + A)).toUInt32 >>> ((4 : Int32).toUInt32 &&& Int32.toUInt32 31)).toInt32) &&& 252645135 = nI (256 * (256 * (Q % 16 + Q / 16) + (B % 16 + B / 16)) + (A % 16 + A / 16)) := by
    rw [show (4 : Int32) = nI 4 from rfl, u4 _ (by omega), nI_add]
    have e : 256 * (256 * Q + B) + A + (256 * (256 * Q + B) + A) / 2 ^ 4 = 256 * (256 * ((Q % 16 + Q / 16) + 16 * (Q / 16)) + ((B % 16 + B / 16) + 16 * (B / 16 + Q % 16))) + ((A % 16 + A / 16) + 16 * (A / 16 + B % 16)) := by omega
    have m16 : ∀ y, y &&& 0x0f = y % 16 := fun y => Nat.and_two_pow_sub_one_eq_mod y 4
    rw [e, show (252645135 : Int32) = nI (256 * (256 * (256 * 0x0f + 0x0f) + 0x0f) + 0x0f) from rfl, nI_land, land8 (by omega) (by decide), land8 (by omega) (by decide), m16, m16]
    have c8 : ∀ y, y < 256 → y &&& (256 * 0x0f + 0x0f) = y % 16 := fun y hy => by
      have := land8 (a := y) (b := 0) (n := 0x0f) (m := 0x0f) hy (by decide)
      rw [← m16]
      simpa using this
    rw [c8 _ (by omega)]
    have z1 : (A % 16 + A / 16 + 16 * (A / 16 + B % 16)) % 16 = A % 16 + A / 16 := by omega
    have z2 : (B % 16 + B / 16 + 16 * (B / 16 + Q % 16)) % 16 = B % 16 + B / 16 := by omega
    have z3 : (Q % 16 + Q / 16 + 16 * (Q / 16)) % 16 = Q % 16 + Q / 16 := by omega
    rw [z1, z2, z3]
  rw [s3]
  generalize hA : A % 16 + A / 16 = X
  generalize hB : B % 16 + B / 16 = Y
  generalize hQ : Q % 16 + Q / 16 = Z
  have lX : X ≤ 8 := by omega
  have lY : Y ≤ 8 := by omega
  have lZ : Z ≤ 8 := by omega
  rw [show (8 : Int32) = nI 8 from rfl, u8 _ (by omega), nI_add, show (16 : Int32) = nI 16 from rfl, u16 _ (by omega), nI_add, show (63 : Int32) = nI 63 from rfl, nI_land, show (63 : Nat) = 2 ^ 6 - 1 from rfl, Nat.and_two_pow_sub_one_eq_mod]
  have t1 : (256 * (256 * Z + Y) + X) / 2 ^ 8 = 256 * Z + Y := by omega
  rw [t1]
  have t2 : (256 * (256 * Z + Y) + X + (256 * Z + Y)) / 2 ^ 16 = Z := by omega
  rw [t2]
  congr 2
  omega
