/-! ===== numbers as bits ===== -/
def b2i (b : Bool) : Int32 := if b then 1 else 0
def adn (a b : Nat) : Nat := a ^^^ (a &&& b)
theorem adn_tb (a b i : Nat) : (adn a b).testBit i = (a.testBit i && !b.testBit i) := by
  unfold adn
  rw [Nat.testBit_xor, Nat.testBit_and]
  cases a.testBit i <;> cases b.testBit i <;> rfl
theorem nI_land (a b : Nat) : nI a &&& nI b = nI (a &&& b) := by
  apply Int32.toBitVec_inj.1
  show BitVec.ofNat 32 a &&& BitVec.ofNat 32 b = BitVec.ofNat 32 (a &&& b)
  apply BitVec.eq_of_getLsbD_eq
  intro i hi
  simp [hi]
theorem nI_lor (a b : Nat) : nI a ||| nI b = nI (a ||| b) := by
  apply Int32.toBitVec_inj.1
  show BitVec.ofNat 32 a ||| BitVec.ofNat 32 b = BitVec.ofNat 32 (a ||| b)
  apply BitVec.eq_of_getLsbD_eq
  intro i hi
  simp [hi]
theorem nI_adn (a b : Nat) : nI a &&& (nI b ^^^ (-1)) = nI (adn a b) := by
  apply Int32.toBitVec_inj.1
  show BitVec.ofNat 32 a &&& (BitVec.ofNat 32 b ^^^ BitVec.allOnes 32) = BitVec.ofNat 32 (adn a b)
  apply BitVec.eq_of_getLsbD_eq
  intro i hi
  rw [BitVec.getLsbD_and, BitVec.getLsbD_xor, BitVec.getLsbD_allOnes, BitVec.getLsbD_ofNat, BitVec.getLsbD_ofNat, BitVec.getLsbD_ofNat, adn_tb]
  simp [hi]
theorem nI_sh : ∀ f, f < 31 → (1 : Int32) <<< (nI f &&& 31) = nI (2 ^ f) := by decide +kernel
theorem nI_shr {s f : Nat} (hs : s < 2 ^ 31) (hf : f < 32) : nI s >>> (nI f &&& 31) = nI (s / 2 ^ f) := pk_shrN hs _ f ((by decide +kernel : ∀ n, n < 32 → ((nI n &&& 31).toBitVec.smod 32).toNat = n) f hf)
theorem nI_one (n : Nat) : nI n &&& 1 = nI (n % 2) := by
  have := nI_land n 1
  rw [Nat.and_one_is_mod] at this
  exact this
theorem nI_hasE {s f : Nat} (hs : s < 2 ^ 31) (hf : f < 32) : (nI s >>> (nI f &&& 31)) &&& 1 = b2i (s.testBit f) := by
  rw [nI_shr hs hf, nI_one]
  have h : s.testBit f = (s / 2 ^ f % 2 == 1) := by
    rw [Nat.testBit_eq_decide_div_mod_eq]
    cases (Nat.mod_two_eq_zero_or_one (s / 2 ^ f)) with
    | inl h => simp [h]
    | inr h => simp [h]
  rw [h]
  rcases Nat.mod_two_eq_zero_or_one (s / 2 ^ f) with h | h <;> rw [h] <;> rfl
theorem b2i_0 {b : Bool} : b2i b = 0 ↔ b = false := by cases b <;> decide
theorem b2i_1 {b : Bool} : b2i b = 1 ↔ b = true := by cases b <;> decide
theorem b2i_ok (b : Bool) : okZ (b2i b) := by cases b <;> decide
theorem b2i_and (a b : Bool) : b2i a &&& b2i b = b2i (a && b) := by cases a <;> cases b <;> decide
theorem b2i_or (a b : Bool) : b2i a ||| b2i b = b2i (a || b) := by cases a <;> cases b <;> decide
theorem gd_ix {α : Type} {k : Option α} {i n : Nat} (h : i < n) (hn : n < 2 ^ 31 := by decide) : gd (ix (nI i) n) k = k := gd_t (nI_in h hn)
theorem tb_lt {s n i : Nat} (h : s < 2 ^ n) (hi : n ≤ i) : s.testBit i = false := Nat.testBit_lt_two_pow (Nat.lt_of_lt_of_le h (Nat.pow_le_pow_right (by decide) hi))
theorem lt_tb {s n : Nat} (h : ∀ i, n ≤ i → s.testBit i = false) : s < 2 ^ n := Nat.lt_pow_two_of_testBit s h
