section ModelGood2
variable {D : Dt} {i o : Nat} {M : St}
theorem ct_ext {p : Nat → Bool} {m : Nat} : ∀ {n : Nat}, m ≤ n → (∀ k, m ≤ k → k < n → p k = false) → ct p n = ct p m
  | 0, h, _ => by have : m = 0 := by omega
                  rw [this]
  | n + 1, h, hp => by
    rcases Nat.lt_or_ge n m with q | q
    · have : m = n + 1 := by omega
      rw [this]
    · unfold ct
      rw [hp n q (by omega), ct_ext q (fun k a b => hp k a (by omega))]
      cases m <;> rfl
theorem allb_ext {p : Nat → Bool} {m : Nat} : ∀ {n : Nat}, m ≤ n → (∀ k, m ≤ k → k < n → p k = true) → allb p n = allb p m
  | 0, h, _ => by have : m = 0 := by omega
                  rw [this]
  | n + 1, h, hp => by
    rcases Nat.lt_or_ge n m with q | q
    · have : m = n + 1 := by omega
      rw [this]
    · show (allb p n && p n) = allb p m
      rw [hp n q (by omega), allb_ext q (fun k a b => hp k a (by omega)), Bool.and_true]
theorem b2i_a1 (b : Bool) : b2i b &&& 1 = b2i b := by cases b <;> decide
theorem b2i_a0 (b : Bool) : b2i b &&& 0 = 0 := by cases b <;> decide
theorem b2i_n {b : Bool} : b2i b = 0 ↔ ¬ b = true := by cases b <;> decide
theorem b2i_f : b2i false = 0 := rfl
theorem b2i_tt : b2i true = 1 := rfl
theorem mIsIn {n lo hi : Nat} (M : St) (h1 : n < 2 ^ 31) (h2 : lo < 2 ^ 31) (h3 : hi < 2 ^ 31) : pX7_isIn M (nI n) (nI lo) (nI hi) = some (b2i (decide (lo ≤ n) && decide (n ≤ hi))) := by
  unfold pX7_isIn
  by_cases a : n < lo
  · rw [if_pos ((nI_ltI h1 h2).mpr a), decide_eq_false (by omega)]; rfl
  · rw [if_neg (fun q => a ((nI_ltI h1 h2).mp q))]
    by_cases b : hi < n
    · rw [if_pos ((nI_ltI h3 h1).mpr b), decide_eq_false (show ¬ n ≤ hi by omega), Bool.and_false]; rfl
    · rw [if_neg (fun q => b ((nI_ltI h3 h1).mp q)), decide_eq_true (by omega), decide_eq_true (by omega)]; rfl
/-- what the inner loop asks of a child -/
def gIn (D : Dt) (S f c : Nat) : Bool := !(kid D f c && (decide (D 4 c = 1) && S.testBit f)) || S.testBit c
def gCt (D : Dt) (S f c : Nat) : Bool := kid D f c && S.testBit c
def gPar (D : Dt) (S f : Nat) : Bool := !S.testBit f || (decide (f = 0) || S.testBit (D 1 f))
def gGrp (D : Dt) (S f n : Nat) : Bool := !S.testBit f || (decide (D 2 f ≤ n) && decide (n ≤ D 3 f))
theorem gStep (w : WF D) {S f : Nat} (hf : f < D 0 0) : (allb (gIn D S f) (D 0 0) && (gPar D S f && gGrp D S f (ct (gCt D S f) (D 0 0)))) = (!S.testBit f || okAt D S f) := by
  obtain ⟨n1, n2⟩ := w.n
  have e1 : ct (gCt D S f) (D 0 0) = kids D f S := by
    unfold kids
    exact (ct_ext (p := gCt D S f) n2 (fun k a b => by
      unfold gCt
      cases q : kid D f k with
      | false => rfl
      | true => have := (kid_iff.mp q).2.1; omega)).symm
  rw [e1]
  unfold okAt gPar gGrp
  cases hb : S.testBit f with
  | false =>
    have : allb (gIn D S f) (D 0 0) = true := allb_iff.mpr fun k _ => by
      unfold gIn; rw [hb]; simp
    rw [this]; rfl
  | true =>
    have : allb (gIn D S f) (D 0 0) = allb (fun c => !(kid D f c && decide (D 4 c = 1)) || S.testBit c) 12 := by
      rw [← allb_ext (p := gIn D S f) n2 (fun k a b => by
        unfold gIn
        cases q : kid D f k with
        | false => rfl
        | true => have := (kid_iff.mp q).2.1; omega)]
      refine allb_cong fun k _ => ?_
      unfold gIn
      rw [hb, Bool.and_true]
    rw [this]
    generalize allb (fun c => !(kid D f c && decide (D 4 c = 1)) || S.testBit c) 12 = A
    generalize (decide (f = 0) || S.testBit (D 1 f)) = B
    cases A <;> cases B <;> simp
theorem mGood26 (h : RelM D i o M) (w : WF D) {S f : Nat} (hS : S < 2 ^ 12) (hf : f < D 0 0) (b : Bool) (k8 : St → Int32 → Int32 → Int32 → Option Int32) :
    pX7_isGood_26 k8 FU M (nI S) (b2i b) (nI f) 0 1 = k8 M (nI S) (b2i (b && (!S.testBit f || okAt D S f))) (nI (f + 1)) := by
  obtain ⟨n1, n2⟩ := w.n
  have f12 : f < 12 := by omega
  have hS31 : S < 2 ^ 31 := Nat.lt_of_lt_of_le hS (by decide)
  have gen : ∀ N c, c ≤ D 0 0 → D 0 0 < c + N → 1 ≤ c → pX7_isGood_26 k8 N M (nI S) (b2i (b && allb (gIn D S f) c)) (nI f) (nI (ct (gCt D S f) c)) (nI c) = k8 M (nI S) (b2i (b && (!S.testBit f || okAt D S f))) (nI (f + 1)) := by
    intro N
    induction N with
    | zero => intro c h1 h2; omega
    | succ N ih =>
      intro c h1 h2 h3
      show pX7_isGood_26_b k8 (pX7_isGood_26 k8 N) M (nI S) (b2i (b && allb (gIn D S f) c)) (nI f) (nI (ct (gCt D S f) c)) (nI c) = _
      have hct := ct_le (gCt D S f) c
      unfold pX7_isGood_26_b
      rw [h.n]
      rcases Nat.lt_or_ge c (D 0 0) with q | q
      · rw [if_neg (fun z => by have := (nI_leI (by omega) (by omega)).mp z; omega)]
        have c12 : c < 12 := by omega
        have hm := (w.g c12).2.2
        simp only [gd_ix c12, nI_clp (show c < 2 ^ 31 by omega), h.p h3 q, h.ma c12]
        have hp := w.p h3 q
        have kE : kid D f c = decide (D 1 c = f) := by unfold kid; rw [decide_eq_true h3, decide_eq_true q]; rfl
        have nx : ∀ (g : Bool) (t : Nat), gIn D S f c = g → (if gCt D S f c then 1 else 0) = t → pX7_isGood_26 k8 N M (nI S) (b2i ((b && allb (gIn D S f) c) && g)) (nI f) (nI (ct (gCt D S f) c + t)) (nI (c + 1)) = k8 M (nI S) (b2i (b && (!S.testBit f || okAt D S f))) (nI (f + 1)) := fun g t hg ht => by
          rw [← hg, ← ht, Bool.and_assoc]
          exact ih (c + 1) q (by omega) (by omega)
        unfold pX7_isGood_61 pX7_isGood_62 pX7_isGood_104 pX7_isGood_109
        simp only [ltv, gd_ix c12, nI_clp (show c < 2 ^ 31 by omega), h.p h3 q, h.ma c12, nI_1, bd_t (mHas M hS31 (show c < 32 by omega)), bd_t (mHas M hS31 (show f < 32 by omega))]
        have m0 : nI (D 4 c) = 0 ↔ D 4 c = 0 := nI0 (by omega)
        have pE : nI (D 1 c) = nI f ↔ D 1 c = f := nI_eq (by omega) (by omega)
        have aT : ∀ B : Bool, b2i B &&& 1 = b2i (B && true) := fun B => by cases B <;> decide
        have aF : ∀ B : Bool, b2i B &&& 0 = b2i (B && false) := fun B => by cases B <;> decide
        have nA : ∀ n, nI n + 0 = nI (n + 0) := fun n => Int32.add_zero _
        simp only [m0, pE, aT, aF, nA, b2i_n]
        unfold gIn gCt at nx
        rw [kE] at nx
        generalize k8 M (nI S) (b2i (b && (!S.testBit f || okAt D S f))) (nI (f + 1)) = R at nx ⊢
        by_cases z : D 1 c = f
        · simp only [if_pos z]
          rw [decide_eq_true z] at nx
          by_cases y : D 4 c = 0
          · simp only [if_pos y]
            rw [decide_eq_false (show ¬ D 4 c = 1 by omega)] at nx
            cases hb : S.testBit c with
            | true => exact nx true 1 rfl (by rw [hb]; rfl)
            | false => exact nx true 0 rfl (by rw [hb]; rfl)
          · simp only [if_neg y]
            rw [decide_eq_true (show D 4 c = 1 by omega)] at nx
            cases hb : S.testBit c with
            | true =>
              cases hf : S.testBit f with
              | true => exact nx true 1 (by rw [hb]; simp) (by rw [hb]; rfl)
              | false => exact nx true 1 (by rw [hb]; simp) (by rw [hb]; rfl)
            | false =>
              cases hf : S.testBit f with
              | true => exact nx false 0 (by rw [hb, hf]; rfl) (by rw [hb]; rfl)
              | false => exact nx true 0 (by rw [hb, hf]; rfl) (by rw [hb]; rfl)
        · simp only [if_neg z]
          rw [decide_eq_false z] at nx
          cases hb : S.testBit c with
          | true => exact nx true 0 rfl rfl
          | false => exact nx true 0 rfl rfl
      · have e : c = D 0 0 := by omega
        subst e
        rw [if_pos ((nI_leI (by omega) (by omega)).mpr q)]
        have hg := w.g f12
        unfold pX7_isGood_143 pX7_isGood_148 pX7_isGood_179 pX7_isGood_184
        have aT : ∀ B : Bool, b2i B &&& 1 = b2i (B && true) := fun B => by cases B <;> decide
        have aF : ∀ B : Bool, b2i B &&& 0 = b2i (B && false) := fun B => by cases B <;> decide
        rw [← gStep w hf, ← Bool.and_assoc, ← Bool.and_assoc]
        generalize (b && allb (gIn D S f) (D 0 0)) = B
        generalize ct (gCt D S f) (D 0 0) = n at hct
        simp only [ltv, gd_ix f12, nI_clp (show f < 2 ^ 31 by omega), nI_1, bd_t (mHas M hS31 (show f < 32 by omega)), h.lo f12, h.hi hf, bd_t (mIsIn M (show n < 2 ^ 31 by omega) (show D 2 f < 2 ^ 31 by omega) (show D 3 f < 2 ^ 31 by omega)), aT, aF, b2i_n]
        unfold gPar gGrp
        cases hb : S.testBit f with
        | false => simp
        | true =>
          rcases Nat.eq_zero_or_pos f with f0 | f0
          · have z : nI f = 0 := by rw [f0]; rfl
            simp only [if_pos z, decide_eq_true f0]
            cases (decide (D 2 f ≤ n) && decide (n ≤ D 3 f)) <;> simp
          · have z : ¬ nI f = 0 := fun q => by have := (nI0 (by omega)).mp q; omega
            have hp := w.p f0 hf
            simp only [if_neg z, decide_eq_false (show ¬ f = 0 by omega), h.p f0 hf, bd_t (mHas M hS31 (show D 1 f < 32 by omega)), b2i_n]
            cases S.testBit (D 1 f) <;> cases (decide (D 2 f ≤ n) && decide (n ≤ D 3 f)) <;> simp
  have := gen FU 1 n1 (by unfold FU; omega) (Nat.le_refl 1)
  have a1 : allb (gIn D S f) 1 = true := by
    show (true && gIn D S f 0) = true
    rfl
  have c1 : ct (gCt D S f) 1 = 0 := rfl
  rw [a1, c1, Bool.and_true] at this
  exact this
end ModelGood2
