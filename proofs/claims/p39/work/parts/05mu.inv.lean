/-! ===== both sides stand for one model ===== -/
def InvD (D : Dt) (i o : Nat) (C M : St) : Prop := WF D ∧ (i < 2 ^ D 0 0 ∧ o < 2 ^ D 0 0) ∧ (∃ S, S < 2 ^ D 0 0 ∧ cmpl D i o S = true) ∧ RelC D i o C ∧ RelM D i o M
def Inv (C M : St) : Prop := ∃ D i o, InvD D i o C M
/-- a call that may throw: the model's number of the exception is the wrapper's -/
def Agr (cd : Nat → Nat) (rc : Option ((Nat × St) ⊕ (Int32 × St))) (rm : Option (Int32 × St)) : Prop :=
  ∃ b M' C', rm = some (b, M') ∧ Inv C' M' ∧ ((∃ k, rc = some (.inl (k, C')) ∧ cd k ≠ 0 ∧ M'.1 7 = nI (cd k)) ∨ (rc = some (.inr (b, C')) ∧ M'.1 7 = 0))
def AgrR (cd : Nat → Nat) (rc : Option (Nat ⊕ Int32)) (C : St) (rm : Option (Int32 × St)) : Prop :=
  ∃ b M', rm = some (b, M') ∧ Inv C M' ∧ ((∃ k, rc = some (.inl k) ∧ cd k ≠ 0 ∧ M'.1 7 = nI (cd k)) ∨ (rc = some (.inr b) ∧ M'.1 7 = 0))
def AgrP {α : Type} (rc rm : Option (α × St)) : Prop := ∃ b C' M', rc = some (b, C') ∧ rm = some (b, M') ∧ Inv C' M'
def AgrQ {α : Type} (rc : Option α) (C : St) (rm : Option (α × St)) : Prop := ∃ b M', rc = some b ∧ rm = some (b, M') ∧ Inv C M'
section Calls
variable {D : Dt} {i o : Nat} {C M : St} {K : Kn}
theorem InvD.m (h : InvD D i o C M) {M' : St} (h2 : RelM D i o M') : InvD D i o C M' := ⟨h.1, h.2.1, h.2.2.1, h.2.2.2.1, h2⟩
theorem InvD.c (h : InvD D i o C M) {C' : St} (h2 : RelC D i o C') : InvD D i o C' M := ⟨h.1, h.2.1, h.2.2.1, h2, h.2.2.2.2⟩
theorem InvD.inv (h : InvD D i o C M) : Inv C M := ⟨D, i, o, h⟩
theorem mThr (M : St) (b : Bool) (k : Int32) : pX7_isThrown M (b2i b) k = some (b2i b, sS M 7 (if b then k else 0)) := by
  unfold pX7_isThrown pX7_isThrown_10
  simp only [ltv]
  cases b with
  | true => rw [if_neg (show ¬ b2i true = 0 by decide), gd_t (b2i_ok _)]; rfl
  | false => rw [if_pos (show b2i false = 0 from rfl), gd_t (b2i_ok _)]; rfl
theorem mT1 (M : St) (k : Int32) : pX7_isThrown M 1 k = some (1, sS M 7 k) := mThr M true k
theorem mT0 (M : St) (k : Int32) : pX7_isThrown M 0 k = some (0, sS M 7 0) := mThr M false k
theorem feat (w : WF D) (x : Int32) : (∃ f, f < D 0 0 ∧ x = nI f ∧ (∀ C i o, RelC D i o C → pX6_checkFeature C x = some (.inr ())) ∧ ∀ M i o, RelM D i o M → pX7_isNone M x = some 0) ∨ ((∀ C i o, RelC D i o C → pX6_checkFeature C x = some (.inl 1)) ∧ ∀ M i o, RelM D i o M → pX7_isNone M x = some 1) := by
  obtain ⟨n1, n2⟩ := w.n
  have e1 : nI (D 0 0) - 1 = nI (D 0 0 - 1) := pk_sub (a := D 0 0) (b := 1) n1
  rcases pk_ix x (show D 0 0 < 2 ^ 31 by omega) with h | h | ⟨f, hf, rfl⟩
  · refine Or.inr ⟨fun C i o hC => ?_, fun M i o hM => ?_⟩
    · unfold pX6_checkFeature pX6_checkFeature_15
      rw [if_pos h]
    · unfold pX7_isNone pX7_isIn
      rw [if_pos h, bd_t rfl, if_pos rfl]
  · have h' : ¬ x < nI (D 0 0) := fun q => by
      have a := ilt.mp q; have b := ile.mp h; omega
    have h0 : ¬ x < 0 := fun q => by
      have a := ilt.mp q; have b := ile.mp h
      rw [nI_toInt (by omega)] at b
      have e0 : (0 : Int32).toInt = 0 := by decide
      omega
    refine Or.inr ⟨fun C i o hC => ?_, fun M i o hM => ?_⟩
    · unfold pX6_checkFeature pX6_checkFeature_15
      rw [if_neg h0, hC.n, if_neg h']
    · unfold pX7_isNone pX7_isIn
      rw [if_neg h0, hM.n, e1, if_pos (ilt.mpr (by
        have b := ile.mp h
        rw [nI_toInt (by omega)] at b
        rw [nI_toInt (by omega)]; omega)), bd_t rfl, if_pos rfl]
  · refine Or.inl ⟨f, hf, rfl, fun C i o hC => ?_, fun M i o hM => ?_⟩
    · unfold pX6_checkFeature
      rw [if_neg (nI_pos (by omega)), hC.n, if_pos (nltI (by omega) (by omega) hf)]
    · unfold pX7_isNone
      rw [hM.n, e1]
      have := mIsIn M (n := f) (lo := 0) (hi := D 0 0 - 1) (by omega) (by decide) (by omega)
      rw [decide_eq_true (Nat.zero_le f), decide_eq_true (show f ≤ D 0 0 - 1 by omega)] at this
      rw [bd_t (show pX7_isIn M (nI f) 0 (nI (D 0 0 - 1)) = _ from this)]
      rfl
/-- a feature that is asked, on the model's side -/
theorem aState (hI : InvD D i o C M) (x : Int32) : AgrR (fun k => if k = 1 then 1 else 0) (pX6_stateOf C x) C (pX7_stateOf M x) ∧ AgrR (fun k => if k = 1 then 1 else 0) (pX6_stateByAll C x) C (pX7_stateByAll M x) := by
  have hI0 := hI
  obtain ⟨w, ⟨hi, ho⟩, hex, hC, hM⟩ := hI
  rcases feat w x with ⟨f, hf, rfl, f1, f2⟩ | ⟨f1, f2⟩
  · have m0 : pX7_stateOf M (nI f) = some (stL D i o f, sS M 7 0) := by
      unfold pX7_stateOf
      rw [bd_t (f2 M i o hM), bd_t (mT0 M 1), if_pos rfl]
      exact mState23 (hM.thr 0) w hi ho hex hf
    refine ⟨⟨_, _, m0, (hI0.m (hM.thr 0)).inv, Or.inr ⟨cState hC w hi ho hf, sS_eq⟩⟩, ?_⟩
    refine ⟨stL D i o f, sS M 7 0, ?_, (hI0.m (hM.thr 0)).inv, Or.inr ⟨cStateAll hC w hi ho hf, sS_eq⟩⟩
    unfold pX7_stateByAll
    rw [bd_t m0]
    exact gd_t (stL_ok (D := D) (i := i) (o := o) f)
  · have m0 : pX7_stateOf M x = some (45, sS M 7 1) := by
      unfold pX7_stateOf
      rw [bd_t (f2 M i o hM), bd_t (mT1 M 1), if_neg (show ¬ (1 : Int32) = 0 by decide)]
    constructor
    · refine ⟨_, _, m0, (hI0.m (hM.thr 1)).inv, Or.inl ⟨1, ?_, by decide, sS_eq⟩⟩
      unfold pX6_stateOf
      rw [tb_e (f1 C i o hC)]
    · refine ⟨45, sS M 7 1, ?_, (hI0.m (hM.thr 1)).inv, Or.inl ⟨1, ?_, by decide, sS_eq⟩⟩
      · unfold pX7_stateByAll
        rw [bd_t m0]
        exact gd_t (show okC (45 : Int32) by decide)
      · unfold pX6_stateByAll
        rw [tb_e (f1 C i o hC)]
theorem aKnown (hI : InvD D i o C M) (x : Int32) : Agr (fun k => if k = 1 then 1 else 0) (pX6_known C x) (pX7_known M x) := by
  have hI0 := hI
  obtain ⟨w, ⟨hi, ho⟩, hex, hC, hM⟩ := hI
  obtain ⟨n1, n2⟩ := w.n
  have q31 : ∀ {x : Nat}, x < 2 ^ D 0 0 → x < 2 ^ 31 := fun hx => Nat.lt_of_lt_of_le (p12 hx n2) (by decide)
  obtain ⟨M', Km, m1, m2, m3, m4, m5, m6⟩ := mDeduces hM w hi ho
  rcases feat w x with ⟨f, hf, rfl, f1, f2⟩ | ⟨f1, f2⟩
  · obtain ⟨C', Kc, c1, c2, c3, c4, c5, c6⟩ := cDeduce hC w hi ho
    have e := Fin_uniq c2 m2
    subst e
    have hv : ∃ v : Int32, pX6_known C (nI f) = some (.inr (v, C')) ∧ pX7_known M (nI f) = some (v, sS M' 7 0) := by
      unfold pX6_known pX7_known
      rw [tb_t (f1 C i o hC), bd_t c1, c4.1.1, c4.1.2, bd_t (cHas C' (q31 c5.1.1) (by omega)), bd_t (cHas C' (q31 c5.1.2) (by omega)), bd_t m1, bd_t (f2 M' i o m3), bd_t (mT0 M' 1), if_pos rfl]
      have e5 : (sS M' 7 0).1 5 = nI Kc.1.1 := by rw [sS_ne (by decide)]; exact m4.1.1
      have e6 : (sS M' 7 0).1 6 = nI Kc.1.2 := by rw [sS_ne (by decide)]; exact m4.1.2
      show ∃ v : Int32, _ ∧ (bd (pX7_has (sS M' 7 0) ((sS M' 7 0).1 5) (nI f)) fun r_4 => if r_4 = 0 then bd (pX7_has (sS M' 7 0) ((sS M' 7 0).1 6) (nI f)) fun r_5 => _ else _) = _
      rw [e5, e6, bd_t (mHas _ (q31 c5.1.1) (show f < 32 by omega)), bd_t (mHas _ (q31 c5.1.2) (show f < 32 by omega))]
      cases Kc.1.1.testBit f <;> cases Kc.1.2.testBit f <;> exact ⟨_, rfl, rfl⟩
    obtain ⟨v, v1, v2⟩ := hv
    exact ⟨v, _, _, v2, ((hI0.c c3).m (m3.thr 0)).inv, Or.inr ⟨v1, sS_eq⟩⟩
  · refine ⟨45, sS M' 7 1, C, ?_, (hI0.m (m3.thr 1)).inv, Or.inl ⟨1, ?_, by decide, sS_eq⟩⟩
    · unfold pX7_known
      rw [bd_t m1, bd_t (f2 M' i o m3), bd_t (mT1 M' 1), if_neg (show ¬ (1 : Int32) = 0 by decide)]
    · unfold pX6_known
      rw [tb_e (f1 C i o hC)]
theorem aReason (hI : InvD D i o C M) (x : Int32) : Agr (fun k => if k = 1 then 1 else if k = 5 then 2 else 0) (pX6_reasonOf C x) (pX7_reasonOf M x) ∧ Agr (fun k => if k = 1 then 1 else if k = 5 then 2 else 0) (pX6_reasonRule C x) (pX7_reasonRule M x) := by
  have hI0 := hI
  obtain ⟨w, ⟨hi, ho⟩, hex, hC, hM⟩ := hI
  obtain ⟨n1, n2⟩ := w.n
  obtain ⟨M', Km, m1, m2, m3, m4, m5, m6⟩ := mDeduces hM w hi ho
  rcases feat w x with ⟨f, hf, rfl, f1, f2⟩ | ⟨f1, f2⟩
  · have f12 : f < 12 := by omega
    obtain ⟨C', Kc, c1, c2, c3, c4, c5, c6⟩ := cDeduce hC w hi ho
    have e := Fin_uniq c2 m2
    subst e
    have kn := cKnows c4 w c5 hf
    have hl := c5.2.2.1 f hf
    have ok := c5.2.2.2.1 f hf
    have e11 := c4.2.1 f hf
    have e8 := m4.2.1 f hf
    have I1 := fun v => ((hI0.c c3).m ((m3.thr 0).thr v)).inv
    have ss : ∀ v, (sS (sS M' 7 0) 7 v).1 7 = v := fun v => sS_eq
    constructor
    · have mE : pX7_reasonOf M (nI f) = if Kc.2.1 f = 45 then some (45, sS (sS M' 7 0) 7 2) else some (Kc.2.1 f, sS (sS M' 7 0) 7 0) := by
        unfold pX7_reasonOf pX7_reasonOf_34
        rw [bd_t m1, bd_t (f2 M' i o m3), bd_t (mT0 M' 1), if_pos rfl]
        have e8' : (sS M' 7 0).2 8 f = Kc.2.1 f := e8
        have e8'' : ∀ v, (sS (sS M' 7 0) 7 v).2 8 f = Kc.2.1 f := fun v => e8
        simp only [gd_ix f12, nI_clp (show f < 2 ^ 31 by omega), e8', bd_t (mT1 (sS M' 7 0) 2), bd_t (mT0 (sS M' 7 0) 2), e8'', gd_t ok.1]
        split
        · rw [if_neg (show ¬ (1 : Int32) = 0 by decide)]
        · exact if_pos trivial
      have cE : pX6_reasonOf C (nI f) = if Kc.2.1 f = 45 then some (.inl (5, C')) else some (.inr (Kc.2.1 f, C')) := by
        unfold pX6_reasonOf
        rw [tb_t (f1 C i o hC), bd_t c1, bd_t kn]
        simp only [gd_ix f12, nI_clp (show f < 2 ^ 31 by omega), e11]
        by_cases z : Kc.2.1 f = 45
        · rw [hl.mp z, if_pos (show b2i false = 0 from rfl), if_pos z]
        · have : knK Kc f = true := by cases q : knK Kc f with
            | true => rfl
            | false => exact absurd (hl.mpr q) z
          rw [this, if_neg (show ¬ b2i true = 0 by decide), if_neg z]
          have : clL (Kc.2.1 f) = Kc.2.1 f := if_neg z
          rw [this]
          exact gd_t ok.1
      rw [mE, cE]
      by_cases z : Kc.2.1 f = 45
      · rw [if_pos z, if_pos z]
        exact ⟨_, _, _, rfl, I1 2, Or.inl ⟨5, rfl, by decide, ss 2⟩⟩
      · rw [if_neg z, if_neg z]
        exact ⟨_, _, _, rfl, I1 0, Or.inr ⟨rfl, ss 0⟩⟩
    · have mE : pX7_reasonRule M (nI f) = if Kc.2.1 f = 114 then some (M'.2 15 f, sS (sS M' 7 0) 7 0) else some (0, sS (sS M' 7 0) 7 2) := by
        unfold pX7_reasonRule pX7_reasonRule_34
        rw [bd_t m1, bd_t (f2 M' i o m3), bd_t (mT0 M' 1), if_pos rfl]
        have e8' : (sS M' 7 0).2 8 f = Kc.2.1 f := e8
        simp only [gd_ix f12, nI_clp (show f < 2 ^ 31 by omega), e8', bd_t (mT1 (sS M' 7 0) 2), bd_t (mT0 (sS M' 7 0) 2)]
        split
        · exact if_pos trivial
        · rw [if_neg (show ¬ (1 : Int32) = 0 by decide)]
      have cE : pX6_reasonRule C (nI f) = if Kc.2.1 f = 114 then some (.inr (C'.2 12 f, C')) else some (.inl (5, C')) := by
        unfold pX6_reasonRule pX6_reasonRule_34
        rw [tb_t (f1 C i o hC), bd_t c1, bd_t kn]
        simp only [gd_ix f12, nI_clp (show f < 2 ^ 31 by omega), e11]
        by_cases z : Kc.2.1 f = 45
        · rw [hl.mp z, if_pos (show b2i false = 0 from rfl), if_neg (by rw [z]; decide)]
        · have : knK Kc f = true := by cases q : knK Kc f with
            | true => rfl
            | false => exact absurd (hl.mpr q) z
          rw [this, if_neg (show ¬ b2i true = 0 by decide)]
          have : clL (Kc.2.1 f) = Kc.2.1 f := if_neg z
          rw [this]
      rw [mE, cE]
      by_cases z : Kc.2.1 f = 114
      · rw [if_pos z, if_pos z, m4.2.2 f hf z, c4.2.2 f hf z]
        exact ⟨_, _, _, rfl, I1 0, Or.inr ⟨rfl, ss 0⟩⟩
      · rw [if_neg z, if_neg z]
        exact ⟨_, _, _, rfl, I1 2, Or.inl ⟨5, rfl, by decide, ss 2⟩⟩
  · constructor
    · refine ⟨45, sS M' 7 1, C, ?_, (hI0.m (m3.thr 1)).inv, Or.inl ⟨1, ?_, by decide, sS_eq⟩⟩
      · unfold pX7_reasonOf
        rw [bd_t m1, bd_t (f2 M' i o m3), bd_t (mT1 M' 1), if_neg (show ¬ (1 : Int32) = 0 by decide)]
      · unfold pX6_reasonOf
        rw [tb_e (f1 C i o hC)]
    · refine ⟨0, sS M' 7 1, C, ?_, (hI0.m (m3.thr 1)).inv, Or.inl ⟨1, ?_, by decide, sS_eq⟩⟩
      · unfold pX7_reasonRule
        rw [bd_t m1, bd_t (f2 M' i o m3), bd_t (mT1 M' 1), if_neg (show ¬ (1 : Int32) = 0 by decide)]
      · unfold pX6_reasonRule
        rw [tb_e (f1 C i o hC)]
end Calls
