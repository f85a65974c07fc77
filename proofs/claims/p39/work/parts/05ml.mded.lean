/-! ===== the model's deduction ===== -/
def RepM (D : Dt) (K : Kn) (M : St) : Prop := (M.1 5 = nI K.1.1 ∧ M.1 6 = nI K.1.2) ∧ (∀ f, f < D 0 0 → M.2 8 f = K.2.1 f) ∧ (∀ f, f < D 0 0 → K.2.1 f = 114 → M.2 15 f = nI (K.2.2 f))
section MDed
variable {D : Dt} {i o : Nat} {M : St} {K : Kn}
theorem RelM_cong {M' : St} (h : RelM D i o M) (h1 : ∀ k, k ≤ 4 → M'.1 k = M.1 k) (h2 : ∀ k, k ≤ 14 → k ≠ 8 → M'.2 k = M.2 k) : RelM D i o M' := by
  unfold RelM
  rw [h1 0 (by decide), h1 1 (by decide), h1 2 (by decide), h1 3 (by decide), h1 4 (by decide), h2 0 (by decide) (by decide), h2 1 (by decide) (by decide), h2 2 (by decide) (by decide), h2 3 (by decide) (by decide), h2 4 (by decide) (by decide), h2 5 (by decide) (by decide), h2 6 (by decide) (by decide), h2 7 (by decide) (by decide), h2 9 (by decide) (by decide), h2 10 (by decide) (by decide), h2 11 (by decide) (by decide), h2 12 (by decide) (by decide), h2 13 (by decide) (by decide), h2 14 (by decide) (by decide)]
  exact h
theorem RelM.s (h : RelM D i o M) {k : Nat} {v : Int32} (hk : 5 ≤ k) : RelM D i o (sS M k v) := RelM_cong h (fun j hj => sS_ne (by omega)) (fun j _ _ => rfl)
theorem RelM.a (h : RelM D i o M) {k x : Nat} {v : Int32} (hk : k = 8 ∨ k = 15) : RelM D i o (sA M k x v) := RelM_cong h (fun j _ => rfl) (fun j hj hne => sA_ne (by omega))
theorem mChildren (h : RelM D i o M) (hr : RepM D K M) (w : WF D) (hK : okK D K) {f : Nat} (hf : f < 12) (b : Bool) : pX7_children M (nI f) (b2i b) = some (nI (if b then kids D f K.1.1 else kno D f K.1.2)) := by
  obtain ⟨n1, n2⟩ := w.n
  have q31 : ∀ {x : Nat}, x < 2 ^ D 0 0 → x < 2 ^ 31 := fun hx => Nat.lt_of_lt_of_le (p12 hx n2) (by decide)
  have eP : ∀ b : Bool, (if b then kids D f K.1.1 else kno D f K.1.2) = ct (fun c => kid D f c && (if b then K.1.1.testBit c else !K.1.2.testBit c)) (D 0 0) := fun b => by
    have z : ∀ k, D 0 0 ≤ k → k < 12 → kid D f k = false := fun k a _ => by
      cases q : kid D f k with
      | false => rfl
      | true => have := (kid_iff.mp q).2.1; omega
    cases b
    · show kno D f K.1.2 = _
      unfold kno
      exact ct_ext n2 (fun k a c => by rw [z k a c]; rfl)
    · show kids D f K.1.1 = _
      unfold kids
      exact ct_ext n2 (fun k a c => by rw [z k a c]; rfl)
  rw [eP]
  unfold pX7_children
  have key : ∀ N c, c ≤ D 0 0 → D 0 0 < c + N → 1 ≤ c → pX7_children_5 N M (nI f) (b2i b) (nI (ct (fun c => kid D f c && (if b then K.1.1.testBit c else !K.1.2.testBit c)) c)) (nI c) = some (nI (ct (fun c => kid D f c && (if b then K.1.1.testBit c else !K.1.2.testBit c)) (D 0 0))) := by
    intro N
    induction N with
    | zero => intro c h1 h2; omega
    | succ N ih =>
      intro c h1 h2 h3
      show pX7_children_5_b (pX7_children_5 N) M (nI f) (b2i b) _ (nI c) = _
      unfold pX7_children_5_b pX7_children_61 pX7_children_57 pX7_children_62
      rw [h.n]
      rcases Nat.lt_or_ge c (D 0 0) with q | q
      · have nx := ih (c + 1) q (by omega) (by omega)
        rw [if_neg (nleN (by omega) (by omega) q)]
        have hp := w.p h3 q
        have kE : kid D f c = decide (D 1 c = f) := by unfold kid; rw [decide_eq_true h3, decide_eq_true q]; rfl
        rw [ct_s] at nx
        rw [kE] at nx
        generalize some (nI (ct (fun c => kid D f c && (if b then K.1.1.testBit c else !K.1.2.testBit c)) (D 0 0))) = R at nx ⊢
        generalize ct (fun c => kid D f c && (if b then K.1.1.testBit c else !K.1.2.testBit c)) c = a at nx ⊢
        have A0 : ∀ n, nI n + 0 = nI (n + 0) := fun n => Int32.add_zero _
        simp only [ltv, gd_ix (show c < 12 by omega), nI_clp (show c < 2 ^ 31 by omega), h.p h3 q, nI_eq (show D 1 c < 2 ^ 31 by omega) (show f < 2 ^ 31 by omega), hr.1.1, hr.1.2, bd_t (mHas M (q31 hK.1.1) (show c < 32 by omega)), bd_t (mHas M (q31 hK.1.2) (show c < 32 by omega)), nI_1, A0]
        by_cases z : D 1 c = f
        · rw [if_pos z]
          rw [decide_eq_true z] at nx
          cases b with
          | true =>
            rw [if_neg (show ¬ b2i true = 0 by decide)]
            cases y : K.1.1.testBit c with
            | true => rw [y] at nx; exact nx
            | false => rw [y] at nx; exact nx
          | false =>
            rw [if_pos (show b2i false = 0 from rfl)]
            cases y : K.1.2.testBit c with
            | true => rw [y] at nx; exact nx
            | false => rw [y] at nx; exact nx
        · rw [if_neg z]
          rw [decide_eq_false z] at nx
          exact nx
      · have : c = D 0 0 := by omega
        rw [this, if_pos (nleI (by omega) (by omega) (Nat.le_refl _))]
  have := key FU 1 n1 (by unfold FU; omega) (Nat.le_refl 1)
  exact this
theorem mOff (h : RelM D i o M) (hr : RepM D K M) (w : WF D) (hK : okK D K) {f : Nat} (hf : f < 12) : pX7_hasOffChild M (nI f) = some (b2i (offK D f K.1.2)) := by
  obtain ⟨n1, n2⟩ := w.n
  have q31 : ∀ {x : Nat}, x < 2 ^ D 0 0 → x < 2 ^ 31 := fun hx => Nat.lt_of_lt_of_le (p12 hx n2) (by decide)
  have eP : offK D f K.1.2 = !allb (fun c => !(kid D f c && (decide (D 4 c = 1) && K.1.2.testBit c))) (D 0 0) := by
    unfold offK
    rw [allb_ext n2 (fun k a c => by
      cases q : kid D f k with
      | false => rfl
      | true => have := (kid_iff.mp q).2.1; omega)]
  rw [eP]
  unfold pX7_hasOffChild
  have key : ∀ N c, c ≤ D 0 0 → D 0 0 < c + N → 1 ≤ c → pX7_hasOffChild_4 N M (nI f) (b2i (!allb (fun c => !(kid D f c && (decide (D 4 c = 1) && K.1.2.testBit c))) c)) (nI c) = some (b2i (!allb (fun c => !(kid D f c && (decide (D 4 c = 1) && K.1.2.testBit c))) (D 0 0))) := by
    intro N
    induction N with
    | zero => intro c h1 h2; omega
    | succ N ih =>
      intro c h1 h2 h3
      show pX7_hasOffChild_4_b (pX7_hasOffChild_4 N) M (nI f) _ (nI c) = _
      unfold pX7_hasOffChild_4_b pX7_hasOffChild_47 pX7_hasOffChild_48
      rw [h.n]
      rcases Nat.lt_or_ge c (D 0 0) with q | q
      · have nx := ih (c + 1) q (by omega) (by omega)
        rw [if_neg (nleN (by omega) (by omega) q)]
        have hp := w.p h3 q
        have hm := (w.g (show c < 12 by omega)).2.2
        have kE : kid D f c = decide (D 1 c = f) := by unfold kid; rw [decide_eq_true h3, decide_eq_true q]; rfl
        have eA : allb (fun c => !(kid D f c && (decide (D 4 c = 1) && K.1.2.testBit c))) (c + 1) = (allb (fun c => !(kid D f c && (decide (D 4 c = 1) && K.1.2.testBit c))) c && !(kid D f c && (decide (D 4 c = 1) && K.1.2.testBit c))) := rfl
        rw [eA, kE] at nx
        generalize some (b2i (!allb (fun c => !(kid D f c && (decide (D 4 c = 1) && K.1.2.testBit c))) (D 0 0))) = R at nx ⊢
        generalize allb (fun c => !(kid D f c && (decide (D 4 c = 1) && K.1.2.testBit c))) c = a at nx ⊢
        have o1 : ∀ x : Bool, b2i x ||| 1 = b2i true := fun x => by cases x <;> decide
        have o0 : ∀ x : Bool, b2i x ||| 0 = b2i x := fun x => by cases x <;> decide
        simp only [ltv, gd_ix (show c < 12 by omega), nI_clp (show c < 2 ^ 31 by omega), h.p h3 q, h.ma (show c < 12 by omega), nI0 (show D 4 c < 2 ^ 31 by omega), nI_eq (show D 1 c < 2 ^ 31 by omega) (show f < 2 ^ 31 by omega), hr.1.2, bd_t (mHas M (q31 hK.1.2) (show c < 32 by omega)), nI_1, o1, o0]
        by_cases z : D 1 c = f
        · rw [if_pos z]
          rw [decide_eq_true z] at nx
          by_cases y : D 4 c = 0
          · rw [if_pos y]
            rw [decide_eq_false (show ¬ D 4 c = 1 by omega)] at nx
            cases a <;> exact nx
          · rw [if_neg y]
            rw [decide_eq_true (show D 4 c = 1 by omega)] at nx
            cases x : K.1.2.testBit c with
            | true => rw [x] at nx; cases a <;> exact nx
            | false => rw [x] at nx; cases a <;> exact nx
        · rw [if_neg z]
          rw [decide_eq_false z] at nx
          cases a <;> exact nx
      · have : c = D 0 0 := by omega
        rw [this, if_pos (nleI (by omega) (by omega) (Nat.le_refl _)), gd_t (b2i_ok _)]
  have := key FU 1 n1 (by unfold FU; omega) (Nat.le_refl 1)
  exact this
def tv (t : Nat) : Int32 := if t = 0 then 0 else if t = 1 then 1 else -1
theorem mTold (h : RelM D i o M) (hr : RepM D K M) (w : WF D) (hK : okK D K) {r f : Nat} (hr1 : r < D 0 1) (hf : f < D 0 0) : pX7_told M (nI r) (nI f) = some (tv (tellR D K.1.1 K.1.2 r f)) := by
  obtain ⟨n1, n2⟩ := w.n
  have r20 := w.r
  have q31 : ∀ {x : Nat}, x < 2 ^ D 0 0 → x < 2 ^ 31 := fun hx => Nat.lt_of_lt_of_le (p12 hx n2) (by decide)
  obtain ⟨-, h6, h7, h8, -⟩ := w.ru hr1
  obtain ⟨-, e6, e9, e10, e11⟩ := h.ru hr1
  have hb : ∀ x, x < D 0 0 → 2 ^ x < 2 ^ D 0 0 := fun x hx => Nat.pow_lt_pow_right (by decide) hx
  have hoth : adn (2 ^ D 6 r ||| 2 ^ D 7 r ||| 2 ^ D 8 r) (2 ^ f) < 2 ^ D 0 0 := adn_lt (Nat.or_lt_two_pow (Nat.or_lt_two_pow (hb _ h6) (hb _ h7)) (hb _ h8))
  unfold pX7_told pX7_told_41 pX7_told_110 pX7_told_207
  simp only [ltv, gd_ix (show r < 20 by omega), nI_clp (show r < 2 ^ 31 by omega), e6, e9, e10, e11, kch_r, kch_e, hr.1.1, hr.1.2, nI_eq (show f < 2 ^ 31 by omega) (show D 6 r < 2 ^ 31 by omega), nI_eq (show f < 2 ^ 31 by omega) (show D 7 r < 2 ^ 31 by omega), nI_eq (show f < 2 ^ 31 by omega) (show D 8 r < 2 ^ 31 by omega), bd_t (mHas M (q31 hK.1.1) (show D 6 r < 32 by omega)), bd_t (mHas M (q31 hK.1.1) (show D 7 r < 32 by omega)), bd_t (mHas M (q31 hK.1.2) (show D 7 r < 32 by omega)), nI_sh _ (show D 6 r < 31 by omega), nI_sh _ (show D 7 r < 31 by omega), nI_sh _ (show D 8 r < 31 by omega), nI_sh _ (show f < 31 by omega), nI_lor, nI_adn, nI_land, nI_eq (show K.1.2 &&& adn (2 ^ D 6 r ||| 2 ^ D 7 r ||| 2 ^ D 8 r) (2 ^ f) < 2 ^ 31 from Nat.lt_of_le_of_lt Nat.and_le_left (q31 hK.1.2)) (q31 hoth)]
  unfold tellR
  by_cases k0 : D 5 r = 0
  · simp only [if_pos k0]
    by_cases c7 : f = D 7 r
    · rw [if_pos c7, decide_eq_true c7]
      cases K.1.1.testBit (D 6 r) with
      | true => rfl
      | false =>
        rw [if_pos (show b2i false = 0 from rfl)]
        by_cases c6 : f = D 6 r
        · rw [if_pos c6, decide_eq_true c6]
          cases K.1.2.testBit (D 7 r) <;> rfl
        · rw [if_neg c6, decide_eq_false c6]; rfl
    · rw [if_neg c7, decide_eq_false c7]
      by_cases c6 : f = D 6 r
      · rw [if_pos c6, decide_eq_true c6]
        cases K.1.2.testBit (D 7 r) <;> rfl
      · rw [if_neg c6, decide_eq_false c6]; rfl
  · by_cases k1 : D 5 r = 1
    · simp only [if_neg k0, if_pos k1]
      by_cases c7 : f = D 7 r
      · rw [if_pos c7, decide_eq_true c7]
        cases K.1.1.testBit (D 6 r) with
        | true => rfl
        | false =>
          rw [if_pos (show b2i false = 0 from rfl)]
          by_cases c6 : f = D 6 r
          · rw [if_pos c6, decide_eq_true c6]
            cases K.1.1.testBit (D 7 r) <;> rfl
          · rw [if_neg c6, decide_eq_false c6]; rfl
      · rw [if_neg c7, decide_eq_false c7]
        by_cases c6 : f = D 6 r
        · rw [if_pos c6, decide_eq_true c6]
          cases K.1.1.testBit (D 7 r) <;> rfl
        · rw [if_neg c6, decide_eq_false c6]; rfl
    · simp only [if_neg k0, if_neg k1]
      have key : (K.1.2 &&& adn (2 ^ D 6 r ||| 2 ^ D 7 r ||| 2 ^ D 8 r) (2 ^ f) = adn (2 ^ D 6 r ||| 2 ^ D 7 r ||| 2 ^ D 8 r) (2 ^ f)) ↔ ((decide (D 6 r = f) || K.1.2.testBit (D 6 r)) && ((decide (D 7 r = f) || K.1.2.testBit (D 7 r)) && (decide (D 8 r = f) || K.1.2.testBit (D 8 r)))) = true := by
        have bt : ∀ j, (adn (2 ^ D 6 r ||| 2 ^ D 7 r ||| 2 ^ D 8 r) (2 ^ f)).testBit j = ((decide (D 6 r = j) || decide (D 7 r = j) || decide (D 8 r = j)) && !decide (f = j)) := fun j => by
          rw [adn_tb, Nat.testBit_or, Nat.testBit_or, tb_pow, tb_pow, tb_pow, tb_pow]
        simp only [Bool.and_eq_true, Bool.or_eq_true, decide_eq_true_iff]
        constructor
        · intro q
          have g : ∀ x, (x = D 6 r ∨ x = D 7 r ∨ x = D 8 r) → x = f ∨ K.1.2.testBit x = true := fun x hx => by
            by_cases z : x = f
            · exact Or.inl z
            · have : (K.1.2 &&& adn (2 ^ D 6 r ||| 2 ^ D 7 r ||| 2 ^ D 8 r) (2 ^ f)).testBit x = (adn (2 ^ D 6 r ||| 2 ^ D 7 r ||| 2 ^ D 8 r) (2 ^ f)).testBit x := by rw [q]
              rw [Nat.testBit_and, bt, decide_eq_false (show ¬ f = x by omega)] at this
              have y : (decide (D 6 r = x) || decide (D 7 r = x) || decide (D 8 r = x)) = true := by
                simp only [Bool.or_eq_true, decide_eq_true_iff]; omega
              rw [y] at this
              exact Or.inr (by simpa using this)
          exact ⟨g _ (Or.inl rfl), g _ (Or.inr (Or.inl rfl)), g _ (Or.inr (Or.inr rfl))⟩
        · intro ⟨a6, a7, a8⟩
          refine Nat.eq_of_testBit_eq fun j => ?_
          rw [Nat.testBit_and, bt]
          cases y : ((decide (D 6 r = j) || decide (D 7 r = j) || decide (D 8 r = j)) && !decide (f = j)) with
          | false => rw [Bool.and_false]
          | true =>
            simp only [Bool.and_eq_true, Bool.or_eq_true, decide_eq_true_iff, Bool.not_eq_true', decide_eq_false_iff_not] at y
            have : K.1.2.testBit j = true := by
              rcases y.1 with (z | z) | z
              · rw [← z]; exact a6.resolve_left (by omega)
              · rw [← z]; exact a7.resolve_left (by omega)
              · rw [← z]; exact a8.resolve_left (by omega)
            rw [this]; rfl
      simp only [key]
      generalize ((decide (D 6 r = f) || K.1.2.testBit (D 6 r)) && ((decide (D 7 r = f) || K.1.2.testBit (D 7 r)) && (decide (D 8 r = f) || K.1.2.testBit (D 8 r)))) = B
      by_cases c6 : f = D 6 r
      · rw [if_pos c6, decide_eq_true c6]
        cases B <;> rfl
      · rw [if_neg c6, decide_eq_false c6]
        by_cases c7 : f = D 7 r
        · rw [if_pos c7, decide_eq_true c7]
          cases B <;> rfl
        · rw [if_neg c7, decide_eq_false c7]
          by_cases c8 : f = D 8 r
          · rw [if_pos c8, decide_eq_true c8]
            cases B <;> rfl
          · rw [if_neg c8, decide_eq_false c8]; rfl
end MDed
