section MDed3
variable {D : Dt} {i o : Nat} {M : St} {K : Kn}
theorem mScan (w : WF D) : ∀ N f (M : St) (K : Kn), RelM D i o M → RepM D K M → okK D K → 1 ≤ f → f ≤ D 0 0 → (∀ g, g < f → knK K g = true ∨ stepF D K g = none) → unK D K * (D 0 0 + 1) + (D 0 0 - f) < N → ∃ M' K', pX7_deduces_66 N M (nI f) = some M' ∧ Fin D K K' ∧ RelM D i o M' ∧ RepM D K' M' ∧ okK D K' ∧ M'.1 7 = M.1 7 := by
  obtain ⟨n1, n2⟩ := w.n
  intro N
  induction N with
  | zero => intro f M K h1 h2 h3 h4 h5 h6 h7; omega
  | succ N ih =>
    intro f M K h hr hK h4 h5 h6 h7
    have hlt : K.1.1 ||| K.1.2 < 2 ^ 31 := Nat.lt_of_lt_of_le (p12 (Nat.or_lt_two_pow hK.1.1 hK.1.2) n2) (by decide)
    have e0 : pX7_deduces_66 (N + 1) M (nI f) = pX7_deduces_66_b (pX7_deduces_66 N) M (nI f) := rfl
    rw [e0]
    unfold pX7_deduces_66_b pX7_deduces_102 pX7_deduces_105
    rw [h.n]
    rcases Nat.lt_or_ge f (D 0 0) with q | q
    · rw [if_neg (nleN (by omega) (by omega) q), hr.1.1, hr.1.2, nI_lor, bd_t (mHas M hlt (by omega)), Nat.testBit_or, nI_1]
      have hkn : (K.1.1.testBit f || K.1.2.testBit f) = knK K f := rfl
      rw [hkn]
      have nxt : (knK K f = true ∨ stepF D K f = none) → ∃ M' K', pX7_deduces_66 N M (nI (f + 1)) = some M' ∧ Fin D K K' ∧ RelM D i o M' ∧ RepM D K' M' ∧ okK D K' ∧ M'.1 7 = M.1 7 := fun hq => by
        refine ih (f + 1) M K h hr hK (by omega) q (fun g hg => ?_) (by omega)
        rcases Nat.lt_succ_iff_lt_or_eq.mp hg with z | z
        · exact h6 g z
        · rw [z]; exact hq
      cases hk : knK K f with
      | true =>
        rw [if_neg (show ¬ b2i true = 0 by decide)]
        exact nxt (Or.inl hk)
      | false =>
        rw [if_pos (show b2i false = 0 from rfl)]
        have mk := mKnown h hr w hK h4 q
        cases hs : stepF D K f with
        | none =>
          rw [hs] at mk
          rw [bd_t (show pX7_isKnown M (nI f) = _ from mk), if_pos rfl]
          exact nxt (Or.inr hs)
        | some K2 =>
          rw [hs] at mk
          obtain ⟨M2, m1, m2, m3, m4⟩ := mk
          have hlow := low_hit q h6 hk hs
          have hK2 := okK_step hK q hs
          have hu := unK_low hlow
          have hmul : (unK D K2 + 1) * (D 0 0 + 1) ≤ unK D K * (D 0 0 + 1) := Nat.mul_le_mul_right _ hu
          rw [Nat.succ_mul] at hmul
          rw [bd_t m1, if_neg (show ¬ (1 : Int32) = 0 by decide)]
          obtain ⟨M', K', d1, d2, d3, d4, d5, d6⟩ := ih 1 M2 K2 m2 m3 hK2 (Nat.le_refl 1) n1 (fun g hg => Or.inl (by
            have : g = 0 := by omega
            rw [this]; unfold knK; rw [hK2.2.1]; rfl)) (by omega)
          exact ⟨M', K', d1, Fin_some hlow d2, d3, d4, d5, d6.trans m4⟩
    · have ef : f = D 0 0 := by omega
      rw [if_pos (nleI (by omega) (by omega) q)]
      subst ef
      exact ⟨M, K, rfl, Fin_none (low_end h6), h, hr, hK, rfl⟩
theorem mDeduces (h : RelM D i o M) (w : WF D) (hi : i < 2 ^ D 0 0) (ho : o < 2 ^ D 0 0) : ∃ M' K', pX7_deduces M = some M' ∧ Fin D (K0 i o) K' ∧ RelM D i o M' ∧ RepM D K' M' ∧ okK D K' ∧ M'.1 7 = M.1 7 := by
  obtain ⟨n1, n2⟩ := w.n
  have hor31 : i ||| o < 2 ^ 31 := Nat.lt_of_lt_of_le (p12 (Nat.or_lt_two_pow hi ho) n2) (by decide)
  unfold pX7_deduces
  simp only [ltv]
  have key : ∀ N k (E : St), k ≤ D 0 0 → D 0 0 < k + N → RelM D i o E → E.1 5 = nI (1 ||| i) → E.1 6 = nI o → (∀ g, g < k → E.2 8 g = (K0 i o).2.1 g) → E.1 7 = M.1 7 → ∃ M' K', pX7_deduces_20 N E (nI k) = some M' ∧ Fin D (K0 i o) K' ∧ RelM D i o M' ∧ RepM D K' M' ∧ okK D K' ∧ M'.1 7 = M.1 7 := by
    intro N
    induction N with
    | zero => intro k E h1 h2; omega
    | succ N ih =>
      intro k E h1 h2 hE e5 e6 e8 e7
      have e0 : pX7_deduces_20 (N + 1) E (nI k) = pX7_deduces_20_b (pX7_deduces_20 N) E (nI k) := rfl
      rw [e0]
      unfold pX7_deduces_20_b pX7_deduces_57
      rw [hE.n]
      rcases Nat.lt_or_ge k (D 0 0) with q | q
      · rw [if_neg (nleN (by omega) (by omega) q)]
        simp only [ltv, nI_1, gd_ix (show k < 12 by omega), nI_clp (show k < 2 ^ 31 by omega), nI0 (show k < 2 ^ 31 by omega)]
        have step : ∀ v : Int32, v = (K0 i o).2.1 k → ∃ M' K', pX7_deduces_20 N (sA E 8 k v) (nI (k + 1)) = some M' ∧ Fin D (K0 i o) K' ∧ RelM D i o M' ∧ RepM D K' M' ∧ okK D K' ∧ M'.1 7 = M.1 7 := fun v hv => by
          refine ih (k + 1) _ q (by omega) (hE.a (Or.inl rfl)) e5 e6 (fun g hg => ?_) e7
          rw [sA_eq]
          by_cases z : g = k
          · rw [z, ← hv]; exact if_pos rfl
          · rw [show upd (E.2 8) k v g = E.2 8 g from if_neg z]
            exact e8 g (by omega)
        have k0 : (K0 i o).2.1 k = if k = 0 then 111 else if i.testBit k || o.testBit k then 100 else 45 := rfl
        by_cases z : k = 0
        · rw [if_pos z]
          exact step _ (by rw [k0, if_pos z]; decide)
        · rw [if_neg z]
          unfold pX7_isDecided
          rw [hE.ci, hE.co, nI_lor, bd_t (mHas _ hor31 (show k < 32 by omega)), gd_t (b2i_ok _), Nat.testBit_or]
          show ∃ M' K', bd (some (b2i (i.testBit k || o.testBit k))) _ = _ ∧ _
          rw [bd_t rfl]
          cases y : (i.testBit k || o.testBit k) with
          | true => rw [if_neg (show ¬ b2i true = 0 by decide)]; exact step _ (by rw [k0, if_neg z, y]; decide)
          | false => rw [if_pos (show b2i false = 0 from rfl)]; exact step _ (by rw [k0, if_neg z, y]; decide)
      · have ek : k = D 0 0 := by omega
        subst ek
        rw [if_pos (nleI (by omega) (by omega) q)]
        have hok := okK_0 w hi ho
        have hu := unK_lt w hok
        have hb : unK D (K0 i o) * (D 0 0 + 1) ≤ 11 * 13 := Nat.mul_le_mul (by omega) (by omega)
        obtain ⟨M', K', d1, d2, d3, d4, d5, d6⟩ := mScan (i := i) (o := o) w FU 1 E (K0 i o) hE ⟨⟨e5, e6⟩, e8, fun g hg z => by
          have z : (if g = 0 then (111 : Int32) else if i.testBit g || o.testBit g then 100 else 45) = 114 := z
          split at z
          · exact absurd z (by decide)
          · split at z <;> exact absurd z (by decide)⟩ hok (Nat.le_refl 1) n1 (fun g hg => Or.inl (by
            have : g = 0 := by omega
            rw [this]; unfold knK; rw [hok.2.1]; rfl)) (by unfold FU; omega)
        exact ⟨M', K', d1, d2, d3, d4, d5, d6.trans e7⟩
  refine key FU 0 _ (Nat.zero_le _) (by unfold FU; omega) ((h.s (by decide)).s (by decide)) ?_ ?_ (fun g hg => absurd hg (Nat.not_lt_zero g)) ?_
  · rw [sS_ne (by decide), sS_eq, h.ci]; exact nI_lor 1 i
  · rw [sS_eq, sS_ne (by decide)]; exact h.co
  · rw [sS_ne (by decide), sS_ne (by decide)]
end MDed3
