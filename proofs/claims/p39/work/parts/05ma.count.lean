/-! ===== folds over all sets; counts ===== -/
def fo {α : Type} (p : Nat → Bool) (g : α → Nat → α) (a : α) : Nat → α
  | 0 => a
  | n + 1 => if p n then g (fo p g a n) n else fo p g a n
theorem fo_s {α : Type} (p : Nat → Bool) (g : α → Nat → α) (a : α) (n : Nat) : fo p g a (n + 1) = if p n then g (fo p g a n) n else fo p g a n := rfl
theorem fo_cong {α : Type} {p q : Nat → Bool} {g : α → Nat → α} {a : α} : ∀ {n : Nat}, (∀ k, k < n → p k = q k) → fo p g a n = fo q g a n
  | 0, _ => rfl
  | n + 1, h => by rw [fo_s, fo_s, h n (by omega), fo_cong (fun k hk => h k (by omega))]
section Counts
variable {D : Dt} {i o : Nat} {C : St}
theorem cHasCmpl (h : RelC D i o C) (w : WF D) (hi : i < 2 ^ D 0 0) (ho : o < 2 ^ D 0 0) : isB (pX6_hasCompletion C) (∃ S, S < 2 ^ D 0 0 ∧ cmpl D i o S = true) := by
  obtain ⟨n1, n2⟩ := w.n
  unfold pX6_hasCompletion
  rw [h.ci, h.co]
  obtain ⟨b, h1, h2⟩ := cReaches h w (p12 hi n2) (p12 ho n2) RU 0 0 (Nat.zero_le _) (by unfold RU; omega) (by decide)
  rw [bd_t (show pX4_reaches RU C 0 0 (nI i) (nI o) = _ from h1), gd_t (b2i_ok b)]
  refine ⟨b, rfl, h2.trans (exists_congr fun S => rest_cmpl w hi)⟩
theorem cIsAllowed (h : RelC D i o C) (w : WF D) {S : Nat} (hS : S < 2 ^ D 0 0) : pX6_isAllowed C (nI S) = some (b2i (good D S)) := by
  unfold pX6_isAllowed good
  rw [bd_t (cAllows h w hS).val, bd_t (cHoldFor h w (S := S)).val]
  cases treeOk D S <;> cases rulesOk D S <;> rfl
theorem cIsCmpl (h : RelC D i o C) (w : WF D) (hi : i < 2 ^ D 0 0) (ho : o < 2 ^ D 0 0) {S : Nat} (hS : S < 2 ^ D 0 0) : pX6_isCompletion C (nI S) = some (b2i (cmpl D i o S)) := by
  obtain ⟨n1, n2⟩ := w.n
  have q31 : ∀ {x : Nat}, x < 2 ^ D 0 0 → x < 2 ^ 31 := fun hx => Nat.lt_of_lt_of_le (p12 hx n2) (by decide)
  unfold pX6_isCompletion cmpl
  rw [h.ci, h.co, nI_adn, nI_land, bd_t (cIsAllowed h w hS)]
  simp only [nI0 (q31 (adn_lt hi)), nI0 (q31 (and_lt ho))]
  by_cases a : adn i S = 0
  · rw [if_pos a, decide_eq_true a]
    by_cases b : o &&& S = 0
    · rw [if_pos b, decide_eq_true b]
      cases good D S <;> rfl
    · rw [if_neg b, decide_eq_false b]; rfl
  · rw [if_neg a, decide_eq_false a]; rfl
theorem cAllF (h : RelC D i o C) (w : WF D) : pX5_allFeatures C = some (nI (2 ^ D 0 0 - 1)) := by
  have hp := p2le w
  have : 1 ≤ 2 ^ D 0 0 := Nat.one_le_two_pow
  unfold pX5_allFeatures
  rw [h.n, shAll w]
  congr 1
  exact pk_sub this
theorem fo_and {p : Nat → Bool} {a n : Nat} (ha : a < 2 ^ n) : ∀ m, m ≤ 2 ^ n → fo p (fun x S => x &&& S) a m < 2 ^ n
  | 0, _ => ha
  | m + 1, h => by
    rw [fo_s]
    split
    · exact and_lt (fo_and ha m (by omega))
    · exact fo_and ha m (by omega)
theorem fo_or {p : Nat → Bool} {a n : Nat} (ha : a < 2 ^ n) : ∀ m, m ≤ 2 ^ n → fo p (fun x S => x ||| S) a m < 2 ^ n
  | 0, _ => ha
  | m + 1, h => by
    rw [fo_s]
    split
    · exact Nat.or_lt_two_pow (fo_or ha m (by omega)) (by omega)
    · exact fo_or ha m (by omega)
theorem fo_and_tb {p : Nat → Bool} {a : Nat} {f : Nat} : ∀ {m : Nat}, (fo p (fun x S => x &&& S) a m).testBit f = true ↔ a.testBit f = true ∧ ∀ S, S < m → p S = true → S.testBit f = true
  | 0 => ⟨fun h => ⟨h, fun S hS => absurd hS (Nat.not_lt_zero S)⟩, fun h => h.1⟩
  | m + 1 => by
    rw [fo_s]
    cases hp : p m with
    | true =>
      rw [if_pos rfl, Nat.testBit_and, Bool.and_eq_true, fo_and_tb]
      constructor
      · intro ⟨⟨h1, h2⟩, h3⟩
        refine ⟨h1, fun S hS q => ?_⟩
        rcases Nat.lt_succ_iff_lt_or_eq.mp hS with z | z
        · exact h2 S z q
        · rw [z]; exact h3
      · intro ⟨h1, h2⟩
        exact ⟨⟨h1, fun S hS q => h2 S (by omega) q⟩, h2 m (by omega) hp⟩
    | false =>
      rw [if_neg (by decide), fo_and_tb]
      constructor
      · intro ⟨h1, h2⟩
        refine ⟨h1, fun S hS q => ?_⟩
        rcases Nat.lt_succ_iff_lt_or_eq.mp hS with z | z
        · exact h2 S z q
        · rw [z, hp] at q; cases q
      · intro ⟨h1, h2⟩
        exact ⟨h1, fun S hS q => h2 S (by omega) q⟩
theorem fo_or_tb {p : Nat → Bool} {f : Nat} : ∀ {m : Nat}, (fo p (fun x S => x ||| S) 0 m).testBit f = true ↔ ∃ S, S < m ∧ p S = true ∧ S.testBit f = true
  | 0 => ⟨fun h => (by rw [show fo p (fun x S => x ||| S) 0 0 = 0 from rfl, Nat.zero_testBit] at h; cases h), fun ⟨S, h, _⟩ => absurd h (Nat.not_lt_zero S)⟩
  | m + 1 => by
    rw [fo_s]
    cases hp : p m with
    | true =>
      rw [if_pos rfl, Nat.testBit_or, Bool.or_eq_true, fo_or_tb]
      constructor
      · intro h
        rcases h with ⟨S, h1, h2⟩ | h
        · exact ⟨S, by omega, h2⟩
        · exact ⟨m, by omega, hp, h⟩
      · intro ⟨S, h1, h2, h3⟩
        rcases Nat.lt_succ_iff_lt_or_eq.mp h1 with z | z
        · exact Or.inl ⟨S, z, h2, h3⟩
        · exact Or.inr (by rw [← z]; exact h3)
    | false =>
      rw [if_neg (by decide), fo_or_tb]
      constructor
      · intro ⟨S, h1, h2⟩
        exact ⟨S, by omega, h2⟩
      · intro ⟨S, h1, h2, h3⟩
        rcases Nat.lt_succ_iff_lt_or_eq.mp h1 with z | z
        · exact ⟨S, z, h2, h3⟩
        · rw [z, hp] at h2; cases h2
theorem cInAll (h : RelC D i o C) (w : WF D) (hi : i < 2 ^ D 0 0) (ho : o < 2 ^ D 0 0) : pX6_featuresInAll C = some (nI (fo (cmpl D i o) (fun x S => x &&& S) (2 ^ D 0 0 - 1) (2 ^ D 0 0))) := by
  have hp := p2le w
  have h1 : 1 ≤ 2 ^ D 0 0 := Nat.one_le_two_pow
  unfold pX6_featuresInAll
  rw [bd_t (cAllF h w)]
  refine loopF (F := fun N k => pX6_featuresInAll_12 N C (nI (2 ^ D 0 0 - 1)) (nI (fo (cmpl D i o) (fun x S => x &&& S) (2 ^ D 0 0 - 1) k)) (nI k)) (m := 2 ^ D 0 0) (fun N => ?_) (fun N k hk => Or.inl ?_) FU 0 (Nat.zero_le _) (by unfold FU; omega)
  · show pX6_featuresInAll_12_b (pX6_featuresInAll_12 N) C _ _ (nI (2 ^ D 0 0)) = _
    unfold pX6_featuresInAll_12_b
    rw [if_pos (nltI (by omega) (by omega) (by omega))]
  · show pX6_featuresInAll_12_b (pX6_featuresInAll_12 N) C _ _ (nI k) = pX6_featuresInAll_12 N C _ _ (nI (k + 1))
    unfold pX6_featuresInAll_12_b pX6_featuresInAll_29
    rw [if_neg (nltN (by omega) (by omega) (by omega)), bd_t (cIsCmpl h w hi ho hk), fo_s]
    simp only [ltv, nI_1, nI_land]
    cases cmpl D i o k <;> rfl
theorem cInSome (h : RelC D i o C) (w : WF D) (hi : i < 2 ^ D 0 0) (ho : o < 2 ^ D 0 0) : pX6_featuresInSome C = some (nI (fo (cmpl D i o) (fun x S => x ||| S) 0 (2 ^ D 0 0))) := by
  have hp := p2le w
  have h1 : 1 ≤ 2 ^ D 0 0 := Nat.one_le_two_pow
  unfold pX6_featuresInSome
  rw [bd_t (cAllF h w)]
  refine loopF (F := fun N k => pX6_featuresInSome_12 N C (nI (fo (cmpl D i o) (fun x S => x ||| S) 0 k)) (nI (2 ^ D 0 0 - 1)) (nI k)) (m := 2 ^ D 0 0) (fun N => ?_) (fun N k hk => Or.inl ?_) FU 0 (Nat.zero_le _) (by unfold FU; omega)
  · show pX6_featuresInSome_12_b (pX6_featuresInSome_12 N) C _ _ (nI (2 ^ D 0 0)) = _
    unfold pX6_featuresInSome_12_b
    rw [if_pos (nltI (by omega) (by omega) (by omega))]
  · show pX6_featuresInSome_12_b (pX6_featuresInSome_12 N) C _ _ (nI k) = pX6_featuresInSome_12 N C _ _ (nI (k + 1))
    unfold pX6_featuresInSome_12_b pX6_featuresInSome_29
    rw [if_neg (nltN (by omega) (by omega) (by omega)), bd_t (cIsCmpl h w hi ho hk), fo_s]
    simp only [ltv, nI_1, nI_lor]
    cases cmpl D i o k <;> rfl
theorem ct_s (p : Nat → Bool) (n : Nat) : ct p (n + 1) = ct p n + (if p n then 1 else 0) := rfl
theorem cCountAll (h : RelC D i o C) (w : WF D) (hi : i < 2 ^ D 0 0) (ho : o < 2 ^ D 0 0) : pX6_completionsByAll C = some (lN (ct (cmpl D i o) (2 ^ D 0 0))) := by
  have hp := p2le w
  have h1 : 1 ≤ 2 ^ D 0 0 := Nat.one_le_two_pow
  unfold pX6_completionsByAll
  rw [bd_t (cAllF h w)]
  refine loopF (F := fun N k => pX6_completionsByAll_13 N C (lN (ct (cmpl D i o) k)) (nI (2 ^ D 0 0 - 1)) (nI k)) (m := 2 ^ D 0 0) (fun N => ?_) (fun N k hk => Or.inl ?_) FU 0 (Nat.zero_le _) (by unfold FU; omega)
  · show pX6_completionsByAll_13_b (pX6_completionsByAll_13 N) C _ _ (nI (2 ^ D 0 0)) = _
    unfold pX6_completionsByAll_13_b
    rw [if_pos (nltI (by omega) (by omega) (by omega))]
  · show pX6_completionsByAll_13_b (pX6_completionsByAll_13 N) C _ _ (nI k) = pX6_completionsByAll_13 N C _ _ (nI (k + 1))
    unfold pX6_completionsByAll_13_b pX6_completionsByAll_32
    rw [if_neg (nltN (by omega) (by omega) (by omega)), bd_t (cIsCmpl h w hi ho hk), ct_s]
    simp only [ltv, nI_1, lN_1]
    cases cmpl D i o k <;> rfl
noncomputable def restB (D : Dt) (ii oo f s S : Nat) : Bool := @decide (rest D ii oo f s S) (Classical.propDecidable _)
theorem restB_iff {ii oo f s S : Nat} : restB D ii oo f s S = true ↔ rest D ii oo f s S := by
  unfold restB; exact @decide_eq_true_iff _ (Classical.propDecidable _)
theorem ct_or {p q r : Nat → Bool} (h : ∀ k, p k = (q k || r k)) (hd : ∀ k, ¬ (q k = true ∧ r k = true)) : ∀ n, ct p n = ct q n + ct r n
  | 0 => rfl
  | n + 1 => by
    rw [ct_s, ct_s, ct_s, ct_or h hd n, h n]
    have := hd n
    cases hq : q n <;> cases hr : r n <;> simp_all <;> omega
theorem ct_none {p : Nat → Bool} (n : Nat) (h : ∀ k, k < n → p k = false) : ct p n = 0 := ct_zero h
theorem ct_one {p : Nat → Bool} {a : Nat} (h : ∀ k, p k = decide (k = a)) : ∀ n, ct p n = if a < n then 1 else 0
  | 0 => rfl
  | n + 1 => by
    rw [ct_s, ct_one h n, h n]
    by_cases q : n = a
    · rw [decide_eq_true q]
      have h1 : ¬ a < n := by omega
      have h2 : a < n + 1 := by omega
      simp only [h1, h2, if_true, if_false, Nat.zero_add]
    · rw [decide_eq_false q]
      by_cases z : a < n
      · have h2 : a < n + 1 := by omega
        simp [z, h2]
      · have h2 : ¬ a < n + 1 := by omega
        simp [z, h2]
theorem rest_fit {ii oo f s S : Nat} (h : rest D ii oo f s S) : S % 2 ^ f = s := h.2.1
theorem cCountFrom (h : RelC D i o C) (w : WF D) {ii oo : Nat} (hi : ii < 2 ^ 12) (ho : oo < 2 ^ 12) : ∀ n f s, f ≤ D 0 0 → D 0 0 < f + n → s < 2 ^ f → pX4_countFrom n C (nI f) (nI s) (nI ii) (nI oo) = some (lN (ct (restB D ii oo f s) (2 ^ D 0 0))) := by
  obtain ⟨n1, n2⟩ := w.n
  intro n
  induction n with
  | zero => intro f s h1 h2; omega
  | succ n ih =>
    intro f s h1 h2 hs
    show pX4_countFrom_e (pX4_countFrom n) C (nI f) (nI s) (nI ii) (nI oo) = _
    unfold pX4_countFrom_e
    rw [h.n]
    rcases Nat.lt_or_ge f (D 0 0) with hf | hf
    · rw [if_pos (nltI (by omega) (by omega) hf)]
      have sp := fun S => rest_split (ii := ii) (oo := oo) (S := S) hf hs
      have dis : ∀ S, ¬ (restB D ii oo (f + 1) s S = true ∧ restB D ii oo (f + 1) (s ||| 2 ^ f) S = true) := fun S ⟨a, b⟩ => by
        have a := rest_fit (restB_iff.mp a)
        have b := rest_fit (restB_iff.mp b)
        have e : s = s ||| 2 ^ f := a.symm.trans b
        have : s.testBit f = (s ||| 2 ^ f).testBit f := by rw [← e]
        rw [tb_lt hs (Nat.le_refl f), Nat.testBit_or, tb_pow, decide_eq_true rfl, Bool.or_true] at this
        cases this
      have go : ∀ c : Nat, pX4_countFrom_43 (pX4_countFrom n) C (nI f) (nI s) (nI ii) (nI oo) (lN c) = some (lN (c + ct (fun S => restB D ii oo f s S && S.testBit f) (2 ^ D 0 0))) := by
        intro c
        unfold pX4_countFrom_43
        obtain ⟨b, e1, e2⟩ := cCanTake h w ho hf (lt_pow_n hs h1)
        rw [bd_t e1]
        cases b with
        | true =>
          rw [if_neg (by decide), nI_1, nI_sh f (by omega), nI_lor, bd_t (ih (f + 1) (s ||| 2 ^ f) hf (by omega) (or_lt' hs))]
          simp only [ltv, lN_add]
          congr 3
          refine ct_cong fun S _ => ?_
          rw [Bool.eq_iff_iff, Bool.and_eq_true, restB_iff, restB_iff, sp]
          constructor
          · intro q
            exact ⟨Or.inr ⟨e2.mp rfl, q⟩, ((mod_succ_in hs).mp q.2.1).2⟩
          · intro ⟨q, z⟩
            rcases q with q | q
            · rw [((mod_succ_out hs).mp q.2.2.1).2] at z; cases z
            · exact q.2
        | false =>
          rw [if_pos (by decide), ct_none _ (fun S _ => ?_)]; rfl
          cases z : (restB D ii oo f s S && S.testBit f) with
          | false => rfl
          | true =>
            rw [Bool.and_eq_true, restB_iff, sp] at z
            rcases z with ⟨q | q, z⟩
            · rw [((mod_succ_out hs).mp q.2.2.1).2] at z; cases z
            · exact absurd (e2.mpr q.1) (by decide)
      have tot : ct (restB D ii oo f s) (2 ^ D 0 0) = ct (fun S => restB D ii oo f s S && !S.testBit f) (2 ^ D 0 0) + ct (fun S => restB D ii oo f s S && S.testBit f) (2 ^ D 0 0) := by
        refine ct_or (fun k => ?_) (fun k ⟨a, b⟩ => ?_) _
        · cases restB D ii oo f s k <;> cases k.testBit f <;> rfl
        · cases k.testBit f <;> simp_all
      obtain ⟨b, e1, e2⟩ := cCanLeave h w hi hf (lt_pow_n hs h1)
      rw [bd_t e1, tot]
      cases b with
      | true =>
        rw [if_neg (by decide), nI_1, bd_t (ih (f + 1) s hf (by omega) (lt_succ_pow hs))]
        simp only [ltv]
        rw [show (0 : Int64) + lN (ct (restB D ii oo (f + 1) s) (2 ^ D 0 0)) = lN (ct (restB D ii oo (f + 1) s) (2 ^ D 0 0)) from Int64.zero_add _, go]
        congr 3
        refine ct_cong fun S _ => ?_
        rw [Bool.eq_iff_iff, Bool.and_eq_true, restB_iff, restB_iff, sp]
        constructor
        · intro q
          exact ⟨Or.inl ⟨e2.mp rfl, q⟩, by rw [((mod_succ_out hs).mp q.2.1).2]; rfl⟩
        · intro ⟨q, z⟩
          rcases q with q | q
          · exact q.2
          · rw [((mod_succ_in hs).mp q.2.2.1).2] at z; cases z
      | false =>
        have nz : ct (fun S => restB D ii oo f s S && !S.testBit f) (2 ^ D 0 0) = 0 := ct_none _ fun S _ => ?_
        · rw [if_pos (by decide), show (0 : Int64) = lN 0 from rfl, go, nz]
        cases z : (restB D ii oo f s S && !S.testBit f) with
        | false => rfl
        | true =>
          rw [Bool.and_eq_true, restB_iff, sp] at z
          rcases z with ⟨q | q, z⟩
          · exact absurd (e2.mpr q.1) (by decide)
          · rw [((mod_succ_in hs).mp q.2.2.1).2] at z; cases z
    · have : f = D 0 0 := by omega
      subst this
      rw [if_neg (nltN (by omega) (by omega) (Nat.le_refl _)), ct_one (a := s) (fun k => ?_), if_pos hs]; rfl
      rw [Bool.eq_iff_iff, restB_iff, rest_end hs, decide_eq_true_iff]
theorem cCount (h : RelC D i o C) (w : WF D) (hi : i < 2 ^ D 0 0) (ho : o < 2 ^ D 0 0) : pX6_completions C = some (lN (ct (cmpl D i o) (2 ^ D 0 0))) := by
  obtain ⟨n1, n2⟩ := w.n
  unfold pX6_completions
  rw [h.ci, h.co, bd_t (show pX4_countFrom RU C 0 0 (nI i) (nI o) = _ from cCountFrom h w (p12 hi n2) (p12 ho n2) RU 0 0 (Nat.zero_le _) (by unfold RU; omega) (by decide))]
  congr 2
  refine ct_cong fun S hS => ?_
  rw [Bool.eq_iff_iff, restB_iff, rest_cmpl w hi]
  exact ⟨fun q => q.2, fun q => ⟨hS, q⟩⟩
end Counts
