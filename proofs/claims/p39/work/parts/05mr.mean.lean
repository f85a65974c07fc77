section Mean3
variable {D : Dt} {i o : Nat} {C M : St}
def mV (D : Dt) (p : Nat → Bool) : UInt64 := FP.ddiv (FP.i2d (Int32.ofInt (sumZ D p (2 ^ D 0 0)))) (FP.i2d (nI (ct p (2 ^ D 0 0))))
theorem l2d_i2d {a : Int64} {b : Int32} (h : a.toInt = b.toInt) : FP.l2d a = FP.i2d b := by
  show UInt64.ofNat (FP.Core.fromInt FP.Core.b64 a.toInt) = UInt64.ofNat (FP.Core.fromInt FP.Core.b64 b.toInt)
  rw [h]
theorem z64_add (z : Int) (r : Int32) : Int64.ofInt z + r.toInt64 = Int64.ofInt (z + r.toInt) := by
  rw [Int64.ofInt_add, Int64.ofInt_int32ToInt]
theorem z32_add (z : Int) (r : Int32) : Int32.ofInt z + r = Int32.ofInt (z + r.toInt) := by
  rw [Int32.ofInt_add, Int32.ofInt_toInt]
theorem mV_ok (w : WF D) {p : Nat → Bool} (h : ∃ S, S < 2 ^ D 0 0 ∧ p S = true) : okN64 (mV D p) := by
  have hp := p2le w
  have hc := ct_le p (2 ^ D 0 0)
  refine div_ok _ (by omega) (fun z => ?_)
  obtain ⟨S, h1, h2⟩ := h
  rw [ct_eq0.mp z S h1] at h2; cases h2
theorem cMean (h : RelC D i o C) (w : WF D) (hi : i < 2 ^ D 0 0) (ho : o < 2 ^ D 0 0) (hex : ∃ S, S < 2 ^ D 0 0 ∧ cmpl D i o S = true) : pX6_meanPrice C = some (mV D (cmpl D i o)) := by
  obtain ⟨n1, n2⟩ := w.n
  have hp := p2le w
  have h1 : 1 ≤ 2 ^ D 0 0 := Nat.one_le_two_pow
  unfold pX6_meanPrice
  rw [bd_t (cAllF h w)]
  refine loopF (F := fun N k => pX6_meanPrice_16 N C (Int64.ofInt (sumZ D (cmpl D i o) k)) (lN (ct (cmpl D i o) k)) (nI (2 ^ D 0 0 - 1)) (nI k)) (m := 2 ^ D 0 0) (fun N => ?_) (fun N k hk => Or.inl ?_) FU 0 (Nat.zero_le _) (by unfold FU; omega)
  · show pX6_meanPrice_16_b (pX6_meanPrice_16 N) C _ _ _ (nI (2 ^ D 0 0)) = _
    unfold pX6_meanPrice_16_b
    have hc := ct_le (cmpl D i o) (2 ^ D 0 0)
    have hb := sumZ_bd w (cmpl D i o) (2 ^ D 0 0)
    have hc0 : ct (cmpl D i o) (2 ^ D 0 0) ≠ 0 := fun z => by
      obtain ⟨S, s1, s2⟩ := hex
      rw [ct_eq0.mp z S s1] at s2; cases s2
    have hlg : ¬ lg_cmp (lN (ct (cmpl D i o) (2 ^ D 0 0))) 0 ≤ 0 := by
      unfold lg_cmp
      rw [if_pos (show lN (ct (cmpl D i o) (2 ^ D 0 0)) > 0 from (lN_lt (a := 0) (by decide) (by omega)).mpr (by omega))]
      decide
    have e1 : FP.l2d (Int64.ofInt (sumZ D (cmpl D i o) (2 ^ D 0 0))) = FP.i2d (Int32.ofInt (sumZ D (cmpl D i o) (2 ^ D 0 0))) := l2d_i2d (by
      rw [Int64.toInt_ofInt, Int32.toInt_ofInt]
      exact (bm64 (by omega) (by omega)).trans (bm (by omega) (by omega)).symm)
    have e2 : FP.l2d (lN (ct (cmpl D i o) (2 ^ D 0 0))) = FP.i2d (nI (ct (cmpl D i o) (2 ^ D 0 0))) := l2d_i2d (by
      rw [lN_toInt (by omega), nI_toInt (by omega)])
    rw [if_pos (nltI (by omega) (by omega) (by omega)), if_neg hlg, e1, e2]
    exact gd_t (mV_ok w hex)
  · show pX6_meanPrice_16_b (pX6_meanPrice_16 N) C _ _ _ (nI k) = pX6_meanPrice_16 N C _ _ _ (nI (k + 1))
    unfold pX6_meanPrice_16_b pX6_meanPrice_49
    rw [if_neg (nltN (by omega) (by omega) (by omega)), bd_t (cIsCmpl h w hi ho hk), bd_t (cPrice h w hk), ct_s, sumZ_s]
    simp only [ltv, nI_1, lN_1, z64_add]
    cases cmpl D i o k with
    | true => rfl
    | false =>
      rw [if_pos (show b2i false = 0 from rfl)]
      simp
theorem mMean (h : RelM D i o M) (w : WF D) (hi : i < 2 ^ D 0 0) (ho : o < 2 ^ D 0 0) (hex : ∃ S, S < 2 ^ D 0 0 ∧ cmpl D i o S = true) : pX7_meanPrice M = some (mV D (cmpl D i o), sS M 7 0) := by
  obtain ⟨n1, n2⟩ := w.n
  have hp := p2le w
  have hh := pow_half n1
  unfold pX7_meanPrice
  simp only [ltv]
  have h := h.thr 0
  generalize sS M 7 0 = M at h ⊢
  have hok := mV_ok w hex
  unfold mV at hok ⊢
  rw [hh] at hok ⊢
  refine loopF (F := fun N k => pX7_meanPrice_11 N M (Int32.ofInt (sumZ D (cmpl D i o) (2 * k))) (nI (ct (cmpl D i o) (2 * k))) (nI (2 * k + 1))) (m := 2 ^ (D 0 0 - 1)) (fun N => ?_) (fun N k hk => Or.inl ?_) FU 0 (Nat.zero_le _) (by unfold FU; omega)
  · show pX7_meanPrice_11_b (pX7_meanPrice_11 N) M _ _ (nI (2 * 2 ^ (D 0 0 - 1) + 1)) = _
    unfold pX7_meanPrice_11_b
    rw [h.n, shAll w, if_pos (nleI (by omega) (by omega) (by omega))]
    exact gd_t hok
  · show pX7_meanPrice_11_b (pX7_meanPrice_11 N) M _ _ (nI (2 * k + 1)) = pX7_meanPrice_11 N M _ _ (nI (2 * (k + 1) + 1))
    unfold pX7_meanPrice_11_b pX7_meanPrice_43 pX7_meanPrice_56
    rw [h.n, shAll w, if_neg (nleN (by omega) (by omega) (by omega)), bd_t (mCompletes h w (show 2 * k + 1 < 2 ^ 12 by omega) (p12 hi n2) (p12 ho n2)), bd_t (mPrice h w (show 2 * k + 1 < 2 ^ D 0 0 by omega))]
    rw [show 2 * (k + 1) = 2 * k + 1 + 1 by omega, ct_s, ct_s, sumZ_s, sumZ_s, even_no]
    simp only [ltv, nI_odd, z32_add]
    have A0 : ∀ n, nI n + 0 = nI (n + 0) := fun n => Int32.add_zero _
    have A1 : ∀ z : Int, Int32.ofInt z + 0 = Int32.ofInt z := fun z => Int32.add_zero _
    rw [show 2 * (k + 1) + 1 = 2 * k + 1 + 1 + 1 by omega]
    cases cmpl D i o (2 * k + 1) with
    | true =>
      rw [if_neg (show ¬ b2i true = 0 by decide), if_neg (show ¬ b2i true = 0 by decide)]
      simp [nI_1]
    | false =>
      rw [if_pos (show b2i false = 0 from rfl), if_pos (show b2i false = 0 from rfl)]
      simp [A0, A1]
end Mean3
