section CDed2
variable {D : Dt} {i o : Nat} {C : St} {K : Kn}
theorem open_iff {A f : Nat} : A = 2 ^ f ↔ A.testBit f = true ∧ ∀ j, j ≠ f → A.testBit j = false := by
  constructor
  · intro h
    rw [h]
    exact ⟨by rw [tb_pow]; exact decide_eq_true rfl, fun j hj => by rw [tb_pow]; exact decide_eq_false (by omega)⟩
  · intro ⟨h1, h2⟩
    refine Nat.eq_of_testBit_eq fun j => ?_
    rw [tb_pow]
    by_cases q : j = f
    · rw [q, h1]; exact (decide_eq_true rfl).symm
    · rw [h2 j q]; exact (decide_eq_false (by omega)).symm
theorem openT (w : WF D) {r f ki ko : Nat} (hr : r < D 0 1) (hi : ki.testBit f = false) (ho : ko.testBit f = false) : (adn (wantM D r) ko ||| adn (unwM D r) ki = 2 ^ f ↔ tellR D ki ko r f ≠ 0) ∧ (tellR D ki ko r f ≠ 0 → (wantM D r).testBit f = decide (tellR D ki ko r f = 1)) := by
  obtain ⟨-, -, -, -, -, -, h67, h8⟩ := w.ru hr
  have e : ∀ j, (adn (wantM D r) ko ||| adn (unwM D r) ki).testBit j = ((wantM D r).testBit j && !ko.testBit j || ((unwM D r).testBit j && !ki.testBit j)) := fun j => by
    rw [Nat.testBit_or, adn_tb, adn_tb]
  rw [open_iff]
  rcases kind3 w hr with h | h | h
  · have h1 : wantM D r = 2 ^ D 7 r := by unfold wantM; rw [if_pos h]
    have h2 : unwM D r = 2 ^ D 6 r := by unfold unwM; rw [if_pos h]
    have t : tellR D ki ko r f = (if decide (f = D 7 r) && ki.testBit (D 6 r) then 1 else if decide (f = D 6 r) && ko.testBit (D 7 r) then 2 else 0) := by unfold tellR; rw [if_pos h]
    rw [h1, h2] at e
    simp only [tb_pow] at e
    constructor
    · rw [t]
      constructor
      · intro ⟨a, b⟩
        rw [h1, h2, e, hi, ho] at a
        have a : D 7 r = f ∨ D 6 r = f := by simpa using a
        rcases a with a | a
        · have := b (D 6 r) (by omega)
          rw [h1, h2, e] at this
          have : ki.testBit (D 6 r) = true := by simpa [Ne.symm h67] using this
          rw [decide_eq_true a.symm, this]; simp
        · have := b (D 7 r) (by omega)
          rw [h1, h2, e] at this
          have : ko.testBit (D 7 r) = true := by simpa [h67] using this
          rw [decide_eq_false (show ¬ f = D 7 r by omega), decide_eq_true a.symm, this]; simp
      · intro a
        rw [h1, h2]
        by_cases c1 : f = D 7 r
        · have c2 : ¬ f = D 6 r := by omega
          rw [decide_eq_true c1, decide_eq_false c2] at a
          cases q : ki.testBit (D 6 r) with
          | false => rw [q] at a; exact absurd rfl a
          | true =>
            refine ⟨by rw [e, ho, ← c1]; simp, fun j hj => ?_⟩
            rw [e, decide_eq_false (show ¬ D 7 r = j by omega)]
            by_cases z : D 6 r = j
            · rw [← z, q]; simp
            · rw [decide_eq_false z]; rfl
        · rw [decide_eq_false c1] at a
          by_cases c2 : f = D 6 r
          · rw [decide_eq_true c2] at a
            cases q : ko.testBit (D 7 r) with
            | false => rw [q] at a; exact absurd rfl a
            | true =>
              refine ⟨by rw [e, hi, ← c2]; simp, fun j hj => ?_⟩
              rw [e, decide_eq_false (show ¬ D 6 r = j by omega)]
              by_cases z : D 7 r = j
              · rw [← z, q]; simp
              · rw [decide_eq_false z]; rfl
          · rw [decide_eq_false c2] at a; exact absurd rfl a
    · rw [t, h1, tb_pow]
      intro a
      by_cases c1 : f = D 7 r
      · have c2 : ¬ f = D 6 r := by omega
        rw [decide_eq_true c1, decide_eq_false c2] at a ⊢
        rw [decide_eq_true c1.symm]
        cases q : ki.testBit (D 6 r) with
        | false => rw [q] at a; exact absurd rfl a
        | true => rfl
      · rw [decide_eq_false c1, decide_eq_false (show ¬ D 7 r = f by omega)]
        split
        · rename_i z; exact absurd z (by simp)
        · split <;> rfl
  · have h0 : ¬ D 5 r = 0 := by omega
    have h1 : wantM D r = 0 := by unfold wantM; rw [if_neg h0, if_pos h]
    have h2 : unwM D r = 2 ^ D 6 r ||| 2 ^ D 7 r := by unfold unwM; rw [if_neg h0, if_pos h]
    have t : tellR D ki ko r f = (if (decide (f = D 7 r) && ki.testBit (D 6 r)) || (decide (f = D 6 r) && ki.testBit (D 7 r)) then 2 else 0) := by unfold tellR; rw [if_neg h0, if_pos h]
    rw [h1, h2] at e
    have e : ∀ j, (adn 0 ko ||| adn (2 ^ D 6 r ||| 2 ^ D 7 r) ki).testBit j = ((decide (D 6 r = j) || decide (D 7 r = j)) && !ki.testBit j) := fun j => by
      rw [e j, Nat.zero_testBit, Nat.testBit_or, tb_pow, tb_pow, Bool.false_and, Bool.false_or]
    constructor
    · rw [t]
      constructor
      · intro ⟨a, b⟩
        rw [h1, h2, e, hi] at a
        have a : D 6 r = f ∨ D 7 r = f := by simpa using a
        rcases a with a | a
        · have := b (D 7 r) (by omega)
          rw [h1, h2, e] at this
          have : ki.testBit (D 7 r) = true := by simpa using this
          rw [decide_eq_true a.symm, this, Bool.true_and, Bool.or_true]; decide
        · have := b (D 6 r) (by omega)
          rw [h1, h2, e] at this
          have : ki.testBit (D 6 r) = true := by simpa using this
          rw [decide_eq_true a.symm, this]; simp
      · intro a
        rw [h1, h2]
        by_cases c1 : f = D 7 r
        · have c2 : ¬ f = D 6 r := by omega
          rw [decide_eq_true c1, decide_eq_false c2] at a
          cases q : ki.testBit (D 6 r) with
          | false => rw [q] at a; exact absurd rfl a
          | true =>
            refine ⟨by rw [e, hi, ← c1]; simp, fun j hj => ?_⟩
            rw [e, decide_eq_false (show ¬ D 7 r = j by omega)]
            by_cases z : D 6 r = j
            · rw [← z, q]; simp
            · rw [decide_eq_false z]; rfl
        · rw [decide_eq_false c1] at a
          by_cases c2 : f = D 6 r
          · rw [decide_eq_true c2] at a
            cases q : ki.testBit (D 7 r) with
            | false => rw [q] at a; exact absurd rfl a
            | true =>
              refine ⟨by rw [e, hi, ← c2]; simp, fun j hj => ?_⟩
              rw [e, decide_eq_false (show ¬ D 6 r = j by omega)]
              by_cases z : D 7 r = j
              · rw [← z, q]; simp
              · rw [decide_eq_false z]; rfl
          · rw [decide_eq_false c2] at a; exact absurd rfl a
    · rw [t, h1, Nat.zero_testBit]
      intro a
      split <;> rfl
  · have h0 : ¬ D 5 r = 0 := by omega
    have h0' : ¬ D 5 r = 1 := by omega
    obtain ⟨h68, h78⟩ := h8 h
    have h1 : wantM D r = 2 ^ D 6 r ||| 2 ^ D 7 r ||| 2 ^ D 8 r := by unfold wantM; rw [if_neg h0, if_neg h0']
    have h2 : unwM D r = 0 := by unfold unwM; rw [if_neg h0, if_neg h0']
    have t : tellR D ki ko r f = (if (decide (f = D 6 r) || (decide (f = D 7 r) || decide (f = D 8 r))) && ((decide (D 6 r = f) || ko.testBit (D 6 r)) && ((decide (D 7 r = f) || ko.testBit (D 7 r)) && (decide (D 8 r = f) || ko.testBit (D 8 r)))) then 1 else 0) := by unfold tellR; rw [if_neg h0, if_neg h0']
    rw [h1, h2] at e
    have e : ∀ j, (adn (2 ^ D 6 r ||| 2 ^ D 7 r ||| 2 ^ D 8 r) ko ||| adn 0 ki).testBit j = ((decide (D 6 r = j) || decide (D 7 r = j) || decide (D 8 r = j)) && !ko.testBit j) := fun j => by
      rw [e j, Nat.zero_testBit, Nat.testBit_or, Nat.testBit_or, tb_pow, tb_pow, tb_pow, Bool.false_and, Bool.or_false]
    have sw : ∀ x : Nat, decide (f = x) = decide (x = f) := fun x => decide_eq_decide.mpr ⟨Eq.symm, Eq.symm⟩
    have key : ((decide (f = D 6 r) || (decide (f = D 7 r) || decide (f = D 8 r))) && ((decide (D 6 r = f) || ko.testBit (D 6 r)) && ((decide (D 7 r = f) || ko.testBit (D 7 r)) && (decide (D 8 r = f) || ko.testBit (D 8 r))))) = true ↔ (f = D 6 r ∨ f = D 7 r ∨ f = D 8 r) ∧ (D 6 r = f ∨ ko.testBit (D 6 r) = true) ∧ (D 7 r = f ∨ ko.testBit (D 7 r) = true) ∧ (D 8 r = f ∨ ko.testBit (D 8 r) = true) := by
      simp only [Bool.and_eq_true, Bool.or_eq_true, decide_eq_true_iff]
    constructor
    · rw [t]
      constructor
      · intro ⟨a, b⟩
        rw [h1, h2, e, ho] at a
        have a : (D 6 r = f ∨ D 7 r = f) ∨ D 8 r = f := by simpa using a
        have b' : ∀ x, (x = D 6 r ∨ x = D 7 r ∨ x = D 8 r) → x = f ∨ ko.testBit x = true := fun x hx => by
          by_cases z : x = f
          · exact Or.inl z
          · have := b x z
            rw [h1, h2, e] at this
            refine Or.inr ?_
            have hx' : (decide (D 6 r = x) || decide (D 7 r = x) || decide (D 8 r = x)) = true := by
              simp only [Bool.or_eq_true, decide_eq_true_iff]; omega
            rw [hx', Bool.true_and] at this
            simpa using this
        rw [if_pos (key.mpr ⟨by omega, b' _ (Or.inl rfl), b' _ (Or.inr (Or.inl rfl)), b' _ (Or.inr (Or.inr rfl))⟩)]
        decide
      · intro a
        have a := key.mp (Classical.byContradiction fun z => a (if_neg z))
        obtain ⟨a1, a6, a7, a8⟩ := a
        rw [h1, h2]
        refine ⟨?_, fun j hj => ?_⟩
        · rw [e, ho]
          simp only [Bool.not_false, Bool.and_true, Bool.or_eq_true, decide_eq_true_iff]
          omega
        · rw [e]
          cases q : (decide (D 6 r = j) || decide (D 7 r = j) || decide (D 8 r = j)) with
          | false => rfl
          | true =>
            simp only [Bool.or_eq_true, decide_eq_true_iff] at q
            rcases q with (q | q) | q
            · rw [← q]; rcases a6 with z | z
              · omega
              · rw [z]; rfl
            · rw [← q]; rcases a7 with z | z
              · omega
              · rw [z]; rfl
            · rw [← q]; rcases a8 with z | z
              · omega
              · rw [z]; rfl
    · rw [t, h1, Nat.testBit_or, Nat.testBit_or, tb_pow, tb_pow, tb_pow]
      intro a
      have a' := key.mp (Classical.byContradiction fun z => a (if_neg z))
      rw [if_pos (key.mpr a')]
      have : (decide (D 6 r = f) || decide (D 7 r = f) || decide (D 8 r = f)) = true := by
        simp only [Bool.or_eq_true, decide_eq_true_iff]; omega
      rw [this]; rfl
theorem cKept (h : RelC D i o C) (w : WF D) {ki ko f : Nat} (hf : f < D 0 0) (hki : ki < 2 ^ D 0 0) (hko : ko < 2 ^ D 0 0) (hi : ki.testBit f = false) (ho : ko.testBit f = false) : pX3_lastKeptBy C (nI f) (nI ki) (nI ko) = some (oI (frs D ki ko f (D 0 1) 0)) := by
  obtain ⟨n1, n2⟩ := w.n
  have r20 := w.r
  unfold pX3_lastKeptBy
  simp only [ltv, nI_sh f (show f < 31 by omega)]
  have key : ∀ N k, k ≤ D 0 1 → D 0 1 < k + N → pX3_lastKeptBy_8 N C (nI ki) (nI ko) (nI (2 ^ f)) (nI k) = some (oI (frs D ki ko f (D 0 1 - k) k)) := by
    intro N
    induction N with
    | zero => intro k h1 h2; omega
    | succ N ih =>
      intro k h1 h2
      show pX3_lastKeptBy_8_b (pX3_lastKeptBy_8 N) C _ _ _ (nI k) = _
      unfold pX3_lastKeptBy_8_b pX3_lastKeptBy_64
      rw [h.r]
      rcases Nat.lt_or_ge k (D 0 1) with q | q
      · rw [if_neg (nleN (by omega) (by omega) q)]
        have nx := ih (k + 1) q (by omega)
        have hlt : adn (wantM D k) ko ||| adn (unwM D k) ki < 2 ^ 31 := Nat.lt_of_lt_of_le (Nat.or_lt_two_pow (adn_lt (wantM_lt w q)) (adn_lt (unwM_lt w q))) (by decide)
        have hpf : 2 ^ f < 2 ^ 31 := Nat.pow_lt_pow_right (by decide) (by omega)
        simp only [ltv, gd_ix (show k < 20 by omega), nI_clp (show k < 2 ^ 31 by omega), (h.ru q).1, (h.ru q).2.1, nI_adn, nI_lor, nI_eq hlt hpf, (openT w q hi ho).1, nI_1, nx, h.fo, bd_t (cHas C (p31 (forceM_lt D) (show D 0 1 ≤ 30 by omega)) (show k < 32 by omega))]
        obtain ⟨j, hj⟩ : ∃ j, D 0 1 - k = j + 1 := ⟨D 0 1 - k - 1, by omega⟩
        rw [hj, show D 0 1 - (k + 1) = j by omega]
        show _ = some (oI (if tellL D ki ko k f = 0 then frs D ki ko f j (k + 1) else some k))
        have hfo : (forceM D).testBit k = !decide (D 9 k = 1) := by
          have := forceM_tb w q
          cases a : (forceM D).testBit k <;> cases b : decide (D 9 k = 1) <;> simp_all
        rw [hfo]
        unfold tellL
        by_cases z : D 9 k = 1
        · rw [if_pos z, if_pos rfl, decide_eq_true z]
          split <;> rfl
        · rw [if_neg z, decide_eq_false z]
          by_cases y : tellR D ki ko k f = 0
          · rw [if_neg (fun x => x y), if_pos y]
          · rw [if_pos y, if_neg y]; rfl
      · rw [if_pos (nleI (by omega) (by omega) q), show D 0 1 - k = 0 by omega]; rfl
  exact key FU 0 (Nat.zero_le _) (by unfold FU; omega)
end CDed2
