section CompRules
variable {D : Dt} {i o : Nat} {C : St}
theorem tb_pow (a j : Nat) : (2 ^ a).testBit j = decide (a = j) := Nat.testBit_two_pow
theorem kind3 (w : WF D) {r : Nat} (hr : r < D 0 1) : D 5 r = 0 ∨ D 5 r = 1 ∨ D 5 r = 2 := by have := (w.ru hr).1; omega
theorem wu_tb (w : WF D) {r S : Nat} (hr : r < D 0 1) : (∃ j, ((wantM D r &&& S) ||| adn (unwM D r) S).testBit j = true) ↔ rok D S r = true := by
  have e : ∀ j, ((wantM D r &&& S) ||| adn (unwM D r) S).testBit j = ((wantM D r).testBit j && S.testBit j || ((unwM D r).testBit j && !S.testBit j)) := fun j => by
    rw [Nat.testBit_or, Nat.testBit_and, adn_tb]
  rcases kind3 w hr with h | h | h
  · have h1 : wantM D r = 2 ^ D 7 r := by unfold wantM; rw [if_pos h]
    have h2 : unwM D r = 2 ^ D 6 r := by unfold unwM; rw [if_pos h]
    have h3 : rok D S r = (!S.testBit (D 6 r) || S.testBit (D 7 r)) := by unfold rok; rw [if_pos h]
    rw [h3]
    constructor
    · intro ⟨j, hj⟩
      rw [e, h1, h2, tb_pow, tb_pow] at hj
      by_cases a : D 7 r = j
      · subst a
        cases hs : S.testBit (D 7 r) with
        | true => simp
        | false =>
          rw [hs] at hj
          have : D 6 r = D 7 r := by simpa using hj
          rw [this, hs]; rfl
      · have : D 6 r = j ∧ S.testBit j = false := by simpa [a] using hj
        rw [this.1, this.2]; rfl
    · intro hq
      cases hs : S.testBit (D 7 r) with
      | true => exact ⟨D 7 r, by rw [e, h1, tb_pow, hs]; simp⟩
      | false =>
        rw [hs] at hq
        have hq' : S.testBit (D 6 r) = false := by simpa using hq
        exact ⟨D 6 r, by rw [e, h2, tb_pow]; simp [hq']⟩
  · have h0 : ¬ D 5 r = 0 := by omega
    have h1 : wantM D r = 0 := by unfold wantM; rw [if_neg h0, if_pos h]
    have h2 : unwM D r = 2 ^ D 6 r ||| 2 ^ D 7 r := by unfold unwM; rw [if_neg h0, if_pos h]
    have h3 : rok D S r = (!S.testBit (D 6 r) || !S.testBit (D 7 r)) := by unfold rok; rw [if_neg h0, if_pos h]
    rw [h3]
    constructor
    · intro ⟨j, hj⟩
      rw [e, h1, h2, Nat.testBit_or, tb_pow, tb_pow, Nat.zero_testBit] at hj
      have q : (D 6 r = j ∨ D 7 r = j) ∧ S.testBit j = false := by simpa using hj
      rcases q with ⟨rfl | rfl, q⟩ <;> rw [q] <;> simp
    · intro hq
      have q : S.testBit (D 6 r) = false ∨ S.testBit (D 7 r) = false := by simpa using hq
      rcases q with q | q
      · exact ⟨D 6 r, by rw [e, h1, h2, Nat.testBit_or, tb_pow, q]; simp⟩
      · exact ⟨D 7 r, by rw [e, h1, h2, Nat.testBit_or, tb_pow, tb_pow, q]; simp⟩
  · have h0 : ¬ D 5 r = 0 := by omega
    have h0' : ¬ D 5 r = 1 := by omega
    have h1 : wantM D r = 2 ^ D 6 r ||| 2 ^ D 7 r ||| 2 ^ D 8 r := by unfold wantM; rw [if_neg h0, if_neg h0']
    have h2 : unwM D r = 0 := by unfold unwM; rw [if_neg h0, if_neg h0']
    have h3 : rok D S r = (S.testBit (D 6 r) || S.testBit (D 7 r) || S.testBit (D 8 r)) := by unfold rok; rw [if_neg h0, if_neg h0']
    rw [h3]
    constructor
    · intro ⟨j, hj⟩
      rw [e, h1, h2, Nat.testBit_or, Nat.testBit_or, tb_pow, tb_pow, tb_pow, Nat.zero_testBit] at hj
      have q : ((D 6 r = j ∨ D 7 r = j) ∨ D 8 r = j) ∧ S.testBit j = true := by simpa using hj
      rcases q with ⟨(rfl | rfl) | rfl, q⟩ <;> rw [q] <;> simp
    · intro hq
      have q : (S.testBit (D 6 r) = true ∨ S.testBit (D 7 r) = true) ∨ S.testBit (D 8 r) = true := by simpa using hq
      rcases q with (q | q) | q
      · exact ⟨D 6 r, by rw [e, h1, h2, Nat.testBit_or, Nat.testBit_or, tb_pow, q]; simp⟩
      · exact ⟨D 7 r, by rw [e, h1, h2, Nat.testBit_or, Nat.testBit_or, tb_pow, tb_pow, q]; simp⟩
      · exact ⟨D 8 r, by rw [e, h1, h2, Nat.testBit_or, tb_pow, q]; simp⟩
theorem pow_lt12 {a : Nat} (h : a < 12) : 2 ^ a < 2 ^ 12 := Nat.pow_lt_pow_right (by decide) h
theorem wantM_lt (w : WF D) {r : Nat} (hr : r < D 0 1) : wantM D r < 2 ^ 12 := by
  obtain ⟨-, h6, h7, h8, -⟩ := w.ru hr
  have n2 := w.n.2
  unfold wantM
  split
  · exact pow_lt12 (by omega)
  · split
    · decide
    · exact Nat.or_lt_two_pow (Nat.or_lt_two_pow (pow_lt12 (by omega)) (pow_lt12 (by omega))) (pow_lt12 (by omega))
theorem unwM_lt (w : WF D) {r : Nat} (hr : r < D 0 1) : unwM D r < 2 ^ 12 := by
  obtain ⟨-, h6, h7, h8, -⟩ := w.ru hr
  have n2 := w.n.2
  unfold unwM
  split
  · exact pow_lt12 (by omega)
  · split
    · exact Nat.or_lt_two_pow (pow_lt12 (by omega)) (pow_lt12 (by omega))
    · decide
theorem adn_lt {a b n : Nat} (h : a < 2 ^ n) : adn a b < 2 ^ n := lt_tb fun j hj => by rw [adn_tb, tb_lt h hj]; rfl
theorem cHoldsFor (h : RelC D i o C) (w : WF D) {r S : Nat} (hr : r < D 0 1) : isB (pX3_holdsFor C (nI r) (nI S)) (rok D S r = true) := by
  have r20 : r < 20 := Nat.lt_of_lt_of_le hr w.r
  unfold pX3_holdsFor
  simp only [gd_ix r20, nI_clp (show r < 2 ^ 31 by omega), (h.ru hr).1, (h.ru hr).2.1]
  rw [nI_land, nI_adn, nI_lor]
  have hlt : (wantM D r &&& S) ||| adn (unwM D r) S < 2 ^ 12 := Nat.or_lt_two_pow (and_lt (wantM_lt w hr)) (adn_lt (unwM_lt w hr))
  have hz : nI ((wantM D r &&& S) ||| adn (unwM D r) S) = 0 ↔ ¬ rok D S r = true := by
    rw [nI0 (Nat.lt_of_lt_of_le hlt (by decide)), ← wu_tb w hr, zero_tb hlt]
    constructor
    · intro a ⟨j, hj⟩
      rcases Nat.lt_or_ge j 12 with q | q
      · rw [a j q] at hj; cases hj
      · rw [tb_lt hlt q] at hj; cases hj
    · intro a j _
      cases hb : ((wantM D r &&& S) ||| adn (unwM D r) S).testBit j with
      | false => rfl
      | true => exact absurd ⟨j, hb⟩ a
  exact if_isB (fun c => isB_f (hz.mp c)) (fun c => isB_t (Classical.byContradiction fun q => c (hz.mpr q)))
theorem forceM_lt (D : Dt) : forceM D < 2 ^ D 0 1 := mkb_lt _ _
theorem forceM_tb (w : WF D) {r : Nat} (hr : r < D 0 1) : (forceM D).testBit r = true ↔ ¬ D 9 r = 1 := by
  have := (w.ru hr).2.2.2.2.1
  unfold forceM
  rw [mkb_tb, decide_eq_true hr, Bool.true_and, decide_eq_true_iff]
  omega
theorem cHoldForL (h : RelC D i o C) (w : WF D) {S : Nat} : ∀ n k, k ≤ D 0 1 → D 0 1 < k + n → isB (pX3_holdFor_2 n C (nI S) (nI k)) (∀ r, k ≤ r → r < D 0 1 → D 9 r = 1 ∨ rok D S r = true) := by
  have r20 := w.r
  intro n
  induction n with
  | zero => intro k h1 h2; omega
  | succ n ih =>
    intro k h1 h2
    show isB (pX3_holdFor_2_b (pX3_holdFor_2 n) C (nI S) (nI k)) _
    unfold pX3_holdFor_2_b
    rw [h.r]
    refine if_isB (fun c1 => isB_t fun f h3 h4 => ?_) (fun c1 => ?_)
    · have := (nI_leI (by omega) (by omega)).mp c1; omega
    · have hk : k < D 0 1 := by
        rcases Nat.lt_or_ge k (D 0 1) with q | q
        · exact q
        · exact absurd ((nI_leI (by omega) (by omega)).mpr q) c1
      have go : isB (pX3_holdFor_32 (pX3_holdFor_2 n) C (nI S) (nI k)) (∀ r, k + 1 ≤ r → r < D 0 1 → D 9 r = 1 ∨ rok D S r = true) := by
        unfold pX3_holdFor_32
        simp only [ltv, nI_1]
        exact ih (k + 1) hk (by omega)
      rw [h.fo]
      refine bd_isB (cHasB C (p31 (forceM_lt D) (by omega)) (by omega)) (fun q => ?_) (fun q => ?_)
      · rw [if0_1]
        have q := (forceM_tb w hk).mp q
        refine bd_isB (cHoldsFor h w hk) (fun z => ?_) (fun z => ?_)
        · rw [if0_1]
          refine go.congr ⟨fun a f h3 h4 => ?_, fun a f h3 h4 => a f (by omega) h4⟩
          rcases Nat.eq_or_lt_of_le h3 with e | e
          · rw [← e]; exact Or.inr z
          · exact a f e h4
        · rw [if0_0]
          exact isB_f fun a => (a k (Nat.le_refl k) hk).elim q z
      · rw [if0_0]
        have q : D 9 k = 1 := Classical.byContradiction fun z => q ((forceM_tb w hk).mpr z)
        refine go.congr ⟨fun a f h3 h4 => ?_, fun a f h3 h4 => a f (by omega) h4⟩
        rcases Nat.eq_or_lt_of_le h3 with e | e
        · rw [← e]; exact Or.inl q
        · exact a f e h4
theorem rulesOk_iff {S : Nat} : rulesOk D S = true ↔ ∀ r, r < D 0 1 → D 9 r = 1 ∨ rok D S r = true := by
  unfold rulesOk
  rw [allb_iff]
  refine forall_congr' fun r => forall_congr' fun _ => ?_
  rw [Bool.or_eq_true, decide_eq_true_iff]
theorem cHoldFor (h : RelC D i o C) (w : WF D) {S : Nat} : isB (pX3_holdFor C (nI S)) (rulesOk D S = true) := by
  have r20 := w.r
  unfold pX3_holdFor
  exact (cHoldForL h w FU 0 (Nat.zero_le _) (by unfold FU; omega)).congr (by
    rw [rulesOk_iff]
    exact ⟨fun a r hr => a r (Nat.zero_le r) hr, fun a r _ hr => a r hr⟩)
theorem cHoldAtL (h : RelC D i o C) (w : WF D) {f S : Nat} (hf : f < 12) : ∀ n k, k ≤ D 0 1 → D 0 1 < k + n → isB (pX3_holdAt_2 n C (nI f) (nI S) (nI k)) (∀ r, k ≤ r → r < D 0 1 → lastM D r = f → D 9 r = 1 ∨ rok D S r = true) := by
  have r20 := w.r
  intro n
  induction n with
  | zero => intro k h1 h2; omega
  | succ n ih =>
    intro k h1 h2
    show isB (pX3_holdAt_2_b (pX3_holdAt_2 n) C (nI f) (nI S) (nI k)) _
    unfold pX3_holdAt_2_b
    rw [h.r]
    refine if_isB (fun c1 => isB_t fun f h3 h4 => ?_) (fun c1 => ?_)
    · have := (nI_leI (by omega) (by omega)).mp c1; omega
    · have hk : k < D 0 1 := by
        rcases Nat.lt_or_ge k (D 0 1) with q | q
        · exact q
        · exact absurd ((nI_leI (by omega) (by omega)).mpr q) c1
      have go : isB (pX3_holdAt_42 (pX3_holdAt_2 n) C (nI f) (nI S) (nI k)) (∀ r, k + 1 ≤ r → r < D 0 1 → lastM D r = f → D 9 r = 1 ∨ rok D S r = true) := by
        unfold pX3_holdAt_42
        simp only [ltv, nI_1]
        exact ih (k + 1) hk (by omega)
      have hl : lastM D k < 2 ^ 31 := by
        obtain ⟨-, a6, a7, a8, -⟩ := w.ru hk
        have n2 := w.n.2
        unfold lastM
        split <;> omega
      rw [gd_ix (show k < 20 by omega), nI_clp (show k < 2 ^ 31 by omega), (h.ru hk).2.2, h.fo]
      refine if_isB (fun c2 => ?_) (fun c2 => ?_)
      · have c2 := (nI_eq hl (by omega)).mp c2
        refine bd_isB (cHasB C (p31 (forceM_lt D) (by omega)) (by omega)) (fun q => ?_) (fun q => ?_)
        · rw [if0_1]
          have q := (forceM_tb w hk).mp q
          refine bd_isB (cHoldsFor h w hk) (fun z => ?_) (fun z => ?_)
          · rw [if0_1]
            refine go.congr ⟨fun a f h3 h4 h5 => ?_, fun a f h3 h4 h5 => a f (by omega) h4 h5⟩
            rcases Nat.eq_or_lt_of_le h3 with e | e
            · rw [← e]; exact Or.inr z
            · exact a f e h4 h5
          · rw [if0_0]
            exact isB_f fun a => (a k (Nat.le_refl k) hk c2).elim q z
        · rw [if0_0]
          have q : D 9 k = 1 := Classical.byContradiction fun z => q ((forceM_tb w hk).mpr z)
          refine go.congr ⟨fun a f h3 h4 h5 => ?_, fun a f h3 h4 h5 => a f (by omega) h4 h5⟩
          rcases Nat.eq_or_lt_of_le h3 with e | e
          · rw [← e]; exact Or.inl q
          · exact a f e h4 h5
      · refine go.congr ⟨fun a f' h3 h4 h5 => ?_, fun a f h3 h4 h5 => a f (by omega) h4 h5⟩
        rcases Nat.eq_or_lt_of_le h3 with e | e
        · rw [← e] at h5; exact absurd ((nI_eq hl (by omega)).mpr h5) c2
        · exact a f' e h4 h5
/-- the rules that the settling of f settles -/
def rAt (D : Dt) (f S : Nat) : Prop := ∀ r, r < D 0 1 → lastM D r = f → D 9 r = 1 ∨ rok D S r = true
theorem cHoldAt (h : RelC D i o C) (w : WF D) {f S : Nat} (hf : f < 12) : isB (pX3_holdAt C (nI f) (nI S)) (rAt D f S) := by
  have r20 := w.r
  unfold pX3_holdAt
  exact (cHoldAtL h w hf FU 0 (Nat.zero_le _) (by unfold FU; omega)).congr ⟨fun a r hr => a r (Nat.zero_le r) hr, fun a r _ hr => a r hr⟩
end CompRules
