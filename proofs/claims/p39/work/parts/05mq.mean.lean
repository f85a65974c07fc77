section Mean2
variable {D : Dt} {i o : Nat} {C M : St}
/-- a datum that is no NaN, small enough to be told -/
def okDt : FP.Core.Datum → Prop
  | .nan => False
  | .inf _ => True
  | .fin _ c q => c < 2 ^ 53 ∧ q ≤ 971
theorem b64_t : FP.Core.b64.tails = 2 ^ 52 := by decide
theorem b64_e : FP.Core.b64.exps = 2048 := by decide
theorem b64_q : FP.Core.b64.qmin = -1074 := by decide
theorem b64_x : FP.Core.b64.qmax = 971 := by decide
theorem b64_p : FP.Core.b64.p = 53 := rfl
theorem rr_ok (s : Bool) (A B : Nat) (e : Int) : okDt (FP.Core.roundRatio FP.Core.b64 s A B e) := by
  have bo : ∀ (c : Nat) (q : Int), c < 2 ^ 53 → okDt (FP.Core.bound FP.Core.b64 s c q) := fun c q h => by
    unfold FP.Core.bound
    split
    · rename_i z
      rw [b64_x] at z
      exact ⟨h, z⟩
    · trivial
  unfold FP.Core.roundRatio FP.Core.roundAt FP.Core.settle
  split
  · rw [b64_q]; exact ⟨by decide, by decide⟩
  · split
    · rename_i z
      exact bo _ _ z
    · rw [b64_t]; exact bo _ _ (by decide)
theorem enc_ok {d : FP.Core.Datum} (h : okDt d) : ∃ (s : Bool) (E T : Nat), FP.Core.encode FP.Core.b64 d = (s.toNat * 2048 + E) * 2 ^ 52 + T ∧ T < 2 ^ 52 ∧ (E < 2047 ∨ (E = 2047 ∧ T = 0)) := by
  cases d with
  | nan => exact h.elim
  | inf s =>
    refine ⟨s, 2047, 0, ?_, by decide, Or.inr ⟨rfl, rfl⟩⟩
    unfold FP.Core.encode FP.Core.assemble
    simp only [b64_t, b64_e]
  | fin s c q =>
    obtain ⟨h1, h2⟩ := h
    unfold FP.Core.encode FP.Core.assemble
    simp only [b64_t, b64_e, b64_q]
    split
    · rename_i z
      exact ⟨s, 0, c, rfl, z, Or.inl (by decide)⟩
    · rename_i z
      exact ⟨s, (q - -1074).toNat + 1, c - 2 ^ 52, rfl, by omega, Or.inl (by omega)⟩
theorem sN (s : Bool) : s.toNat ≤ 1 := by cases s <;> decide
theorem enc_lt {d : FP.Core.Datum} (h : okDt d) : FP.Core.encode FP.Core.b64 d < 2 ^ 64 ∧ FP.Core.encode FP.Core.b64 d % 2 ^ 63 ≤ 2047 * 2 ^ 52 := by
  obtain ⟨s, E, T, e, h1, h2⟩ := enc_ok h
  have := sN s
  rw [e]
  generalize s.toNat = b at this
  have hb : b = 0 ∨ b = 1 := by omega
  rcases hb with rfl | rfl <;> constructor <;> omega
theorem dec_ok {d : FP.Core.Datum} (h : okDt d) : FP.Core.decode FP.Core.b64 (UInt64.ofNat (FP.Core.encode FP.Core.b64 d)).toNat ≠ .nan := by
  have hl := (enc_lt h).1
  obtain ⟨s, E, T, e, h1, h2⟩ := enc_ok h
  have := sN s
  rw [UInt64.toNat_ofNat', Nat.mod_eq_of_lt hl, e]
  unfold FP.Core.decode FP.Core.fieldE FP.Core.fieldT
  simp only [b64_t, b64_e]
  generalize s.toNat = b at this
  have hb : b = 0 ∨ b = 1 := by omega
  have q1 : ((b * 2048 + E) * 2 ^ 52 + T) / 2 ^ 52 % 2048 = E := by rcases hb with rfl | rfl <;> omega
  have q2 : ((b * 2048 + E) * 2 ^ 52 + T) % 2 ^ 52 = T := by rcases hb with rfl | rfl <;> omega
  rw [q1, q2]
  split
  · split
    · exact fun z => by cases z
    · omega
  · split
    · exact fun z => by cases z
    · exact fun z => by cases z
theorem quo_ok {a b : FP.Core.Datum} (ha : a ≠ .nan) {t : Bool} {c : Nat} {r : Int} (hb : b = .fin t c r) (hc : c ≠ 0) : okDt (FP.Core.quotient FP.Core.b64 a b) := by
  subst hb
  cases a with
  | nan => exact absurd rfl ha
  | inf s => trivial
  | fin s c' q =>
    show okDt (if c = 0 then (if c' = 0 then .nan else .inf (s != t)) else FP.Core.roundRatio FP.Core.b64 (s != t) c' c (q - r))
    rw [if_neg hc]
    exact rr_ok _ _ _ _
def isFin (x : UInt64) : Bool := match FP.Core.decode FP.Core.b64 x.toNat with
  | .fin _ c _ => decide (c ≠ 0)
  | _ => false
theorem isFin_all : ∀ a, a < 64 → ∀ b, b < 65 → a * 64 + b ≠ 0 → isFin (FP.i2d (nI (a * 64 + b))) = true := by decide +kernel
theorem isFin_c {c : Nat} (h : c ≤ 4096) (h0 : c ≠ 0) : isFin (FP.i2d (nI c)) = true := by
  rcases Nat.eq_or_lt_of_le h with q | q
  · have := isFin_all 63 (by decide) 64 (by decide) (by decide)
    rw [q]; exact this
  · have e : c / 64 * 64 + c % 64 = c := by omega
    have := isFin_all (c / 64) (by omega) (c % 64) (by omega) (by omega)
    rw [e] at this; exact this
theorem div_ok (a : Int32) {c : Nat} (h : c ≤ 4096) (h0 : c ≠ 0) : okN64 (FP.ddiv (FP.i2d a) (FP.i2d (nI c))) := by
  have hc := isFin_c h h0
  unfold isFin at hc
  have hd : FP.Core.decode FP.Core.b64 (FP.i2d a).toNat ≠ .nan := dec_ok (rr_ok _ _ _ _)
  have hq : okDt (FP.Core.quotient FP.Core.b64 (FP.Core.decode FP.Core.b64 (FP.i2d a).toNat) (FP.Core.decode FP.Core.b64 (FP.i2d (nI c)).toNat)) := by
    split at hc
    · rename_i s c' q e
      exact quo_ok hd e (of_decide_eq_true hc)
    · cases hc
  obtain ⟨l1, l2⟩ := enc_lt hq
  show UInt64.ofNat (FP.Core.encode FP.Core.b64 _) &&& 0x7fffffffffffffff ≤ 0x7ff0000000000000
  rw [UInt64.le_iff_toNat_le, UInt64.toNat_and, UInt64.toNat_ofNat', Nat.mod_eq_of_lt l1]
  show _ &&& (2 ^ 63 - 1) ≤ _
  rw [Nat.and_two_pow_sub_one_eq_mod]
  exact l2
end Mean2
