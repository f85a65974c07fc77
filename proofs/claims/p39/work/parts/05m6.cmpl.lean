section Cmpl
variable {D : Dt} {i o : Nat} {C : St}
theorem kids_mod {p f S : Nat} (hf : f ≤ 12) : kids D p (S % 2 ^ f) = ct (fun c => kid D p c && S.testBit c) f := by
  unfold kids
  have e : 12 = f + (12 - f) := by omega
  rw [e, ct_add, ct_zero (n := 12 - f) (fun k hk => by rw [mod_tb, decide_eq_false (by omega), Bool.false_and, Bool.and_false]), Nat.add_zero]
  exact ct_cong fun k hk => by rw [mod_tb, decide_eq_true hk, Bool.true_and]
theorem kids_cut {p S : Nat} (f : Nat) (hf : f < 12) : kids D p S = ct (fun c => kid D p c && S.testBit c) f + (if kid D p f && S.testBit f then 1 else 0) + ct (fun j => kid D p (f + 1 + j) && S.testBit (f + 1 + j)) (11 - f) := by
  unfold kids
  have e : 12 = (f + 1) + (11 - f) := by omega
  rw [e, ct_add]
  rfl
theorem kidsB_sub {p f : Nat} (hf : f < 12) : kidsB D p f = ct (fun j => kid D p (f + 1 + j)) (11 - f) := by
  unfold kidsB
  have e : 12 = (f + 1) + (11 - f) := by omega
  rw [e, ct_add, ct_zero (n := f + 1) (fun k hk => by rw [decide_eq_false (by omega), Bool.and_false]), Nat.zero_add]
  exact ct_cong fun k hk => by rw [decide_eq_true (by omega), Bool.and_true]
theorem ct_pos {p : Nat → Bool} : ∀ {n : Nat}, 0 < ct p n → ∃ k, k < n ∧ p k = true ∧ ∀ j, k < j → j < n → p j = false
  | 0, h => absurd h (Nat.not_lt_zero 0)
  | n + 1, h => by
    unfold ct at h
    cases hp : p n with
    | true => exact ⟨n, by omega, hp, fun j h1 h2 => by omega⟩
    | false =>
      rw [hp] at h
      obtain ⟨k, h1, h2, h3⟩ := ct_pos (n := n) (by simpa using h)
      refine ⟨k, by omega, h2, fun j h4 h5 => ?_⟩
      rcases Nat.lt_or_ge j n with q | q
      · exact h3 j h4 q
      · have : j = n := by omega
        rw [this]; exact hp
theorem rok_mod (w : WF D) {r S f : Nat} (hr : r < D 0 1) (hf : lastM D r < f) : rok D (S % 2 ^ f) r = rok D S r := by
  have a6 : D 6 r < f ∧ D 7 r < f ∧ (D 5 r = 2 → D 8 r < f) := by
    unfold lastM at hf
    split at hf
    · omega
    · exact ⟨by omega, by omega, fun q => absurd q (by assumption)⟩
  have m : ∀ j, j < f → (S % 2 ^ f).testBit j = S.testBit j := fun j hj => by rw [mod_tb, decide_eq_true hj, Bool.true_and]
  have k3 := kind3 w hr
  unfold rok
  rw [m _ a6.1, m _ a6.2.1]
  split
  · rfl
  · split
    · rfl
    · rw [m _ (a6.2.2 (by omega))]
theorem lastM_lt (w : WF D) {r : Nat} (hr : r < D 0 1) : lastM D r < D 0 0 := by
  obtain ⟨-, a6, a7, a8, -⟩ := w.ru hr
  unfold lastM
  split <;> omega
theorem or_mod {S f : Nat} (h : S.testBit f = true) : S % 2 ^ f ||| 2 ^ f = S % 2 ^ (f + 1) := by
  have := (mod_succ_in (S := S) (f := f) (s := S % 2 ^ f) (Nat.mod_lt _ (Nat.two_pow_pos f))).mpr ⟨rfl, h⟩
  exact this.symm
theorem no_mod {S f : Nat} (h : S.testBit f = false) : S % 2 ^ f = S % 2 ^ (f + 1) := by
  have := (mod_succ_out (S := S) (f := f) (s := S % 2 ^ f) (Nat.mod_lt _ (Nat.two_pow_pos f))).mpr ⟨rfl, h⟩
  exact this.symm
theorem stp_r {ii oo g S : Nat} (h : stp D ii oo g S) : rAt D g (S % 2 ^ (g + 1)) := by
  unfold stp at h
  cases hb : S.testBit g with
  | true => rw [if_pos hb] at h; rw [← or_mod hb]; exact h.2.2
  | false => rw [if_neg (by rw [hb]; decide)] at h; rw [← no_mod hb]; exact h.2.2
/-- every step went well just where the set is a completion -/
theorem stp_cmpl (w : WF D) {ii oo S : Nat} (hi : ii < 2 ^ D 0 0) (hS : S < 2 ^ D 0 0) : (∀ g, g < D 0 0 → stp D ii oo g S) ↔ cmpl D ii oo S = true := by
  obtain ⟨n1, n2⟩ := w.n
  have hcm : cmpl D ii oo S = true ↔ adn ii S = 0 ∧ oo &&& S = 0 ∧ treeOk D S = true ∧ rulesOk D S = true := by
    unfold cmpl good
    rw [Bool.and_eq_true, Bool.and_eq_true, Bool.and_eq_true, decide_eq_true_iff, decide_eq_true_iff]
  have hrl : (∀ g, g < D 0 0 → rAt D g (S % 2 ^ (g + 1))) ↔ rulesOk D S = true := by
    rw [rulesOk_iff]
    constructor
    · intro a r hr
      have := a (lastM D r) (lastM_lt w hr) r hr rfl
      rw [rok_mod w hr (by omega)] at this
      exact this
    · intro a g hg r hr e
      rw [rok_mod w hr (by omega)]
      exact a r hr
  rw [hcm]
  constructor
  · intro a
    have ain : ∀ g, g < D 0 0 → S.testBit g = true → canIn D oo g (S % 2 ^ g) := fun g hg hb => by
      have := a g hg; unfold stp at this; rw [if_pos hb] at this; exact this
    have aout : ∀ g, g < D 0 0 → S.testBit g = false → canOut D ii g (S % 2 ^ g) := fun g hg hb => by
      have := a g hg; unfold stp at this; rw [if_neg (by rw [hb]; decide)] at this; exact this
    have par : ∀ f, 1 ≤ f → f < D 0 0 → S.testBit f = true → S.testBit (D 1 f) = true := fun f h1 h2 hb => by
      rcases (ain f h2 hb).2.1.2 with q | q
      · omega
      · have := q.1
        rw [mod_tb] at this
        have hp := w.p h1 h2
        rw [decide_eq_true hp, Bool.true_and] at this
        exact this
    refine ⟨?_, ?_, ?_, hrl.mp fun g hg => stp_r (a g hg)⟩
    · rw [zero_tb (adn_lt hi)]
      intro j hj
      rw [adn_tb]
      cases hb : S.testBit j with
      | true => simp
      | false =>
        have := (aout j hj hb).1
        have : ii.testBit j = false := by cases q : ii.testBit j <;> simp_all
        rw [this]; rfl
    · rw [zero_tb (n := D 0 0) (Nat.lt_of_le_of_lt Nat.and_le_right hS)]
      intro j hj
      rw [Nat.testBit_and]
      cases hb : S.testBit j with
      | false => simp
      | true =>
        have := (ain j hj hb).1
        have : oo.testBit j = false := by cases q : oo.testBit j <;> simp_all
        rw [this]; rfl
    · rw [treeOk_iff]
      refine ⟨?_, fun f hf hb => okAt_iff.mpr ⟨?_, ?_, ?_, ?_⟩⟩
      · cases hb : S.testBit 0 with
        | true => rfl
        | false => exact absurd rfl (aout 0 n1 hb).2.1.1
      · rcases Nat.eq_zero_or_pos f with q | q
        · exact Or.inl q
        · exact Or.inr (par f q hf hb)
      · intro c hc hk hm
        obtain ⟨k1, k2, k3⟩ := kid_iff.mp hk
        cases hbc : S.testBit c with
        | true => rfl
        | false =>
          have := (aout c k2 hbc).2.1.2
          have hp := w.p k1 k2
          rw [mod_tb, decide_eq_true hp, Bool.true_and, k3, hb] at this
          exact absurd hm (this.elim (fun q => absurd rfl q) (fun q => q.1))
      · -- enough children
        rcases Nat.eq_zero_or_pos (ct (fun c => kid D f c && !S.testBit c) 12) with q | q
        · have h1 : kids D f S = nk D f := by
            unfold kids nk
            refine ct_cong fun c hc => ?_
            cases h2 : kid D f c with
            | false => rfl
            | true =>
              cases h3 : S.testBit c with
              | true => rfl
              | false =>
                exfalso
                have : ∀ n, c < n → 0 < ct (fun c => kid D f c && !S.testBit c) n := fun n hn => by
                  have e : n = c + 1 + (n - (c + 1)) := by omega
                  rw [e, ct_add]
                  have : ct (fun c => kid D f c && !S.testBit c) (c + 1) = ct (fun c => kid D f c && !S.testBit c) c + 1 := by
                    show _ + (if (kid D f c && !S.testBit c) then 1 else 0) = _
                    rw [h2, h3]; rfl
                  omega
                have := this 12 hc
                omega
          rw [h1]
          exact (ain f hf hb).2.1.1
        · obtain ⟨c, hc, hp, hl⟩ := ct_pos q
          have hk : kid D f c = true := by cases h2 : kid D f c <;> simp_all
          have hbc : S.testBit c = false := by cases h3 : S.testBit c <;> simp_all
          obtain ⟨k1, k2, k3⟩ := kid_iff.mp hk
          have := (aout c k2 hbc).2.1.2
          have hpc := w.p k1 k2
          rw [mod_tb, decide_eq_true hpc, Bool.true_and, k3, hb] at this
          have hge := this.elim (fun q => absurd rfl q) (fun q => q.2)
          rw [kids_mod (by omega), kidsB_sub hc] at hge
          rw [kids_cut c hc]
          have : ct (fun j => kid D f (c + 1 + j)) (11 - c) = ct (fun j => kid D f (c + 1 + j) && S.testBit (c + 1 + j)) (11 - c) := by
            refine ct_cong fun j hj => ?_
            have := hl (c + 1 + j) (by omega) (by omega)
            cases h2 : kid D f (c + 1 + j) with
            | false => rfl
            | true =>
              rw [h2] at this
              cases h3 : S.testBit (c + 1 + j) with
              | true => rfl
              | false => rw [h3] at this; cases this
          omega
      · -- not too many
        rcases Nat.eq_zero_or_pos (kids D f S) with q | q
        · omega
        · obtain ⟨c, hc, hp, hl⟩ := ct_pos q
          have hk : kid D f c = true := by cases h2 : kid D f c <;> simp_all
          have hbc : S.testBit c = true := by cases h3 : S.testBit c <;> simp_all
          obtain ⟨k1, k2, k3⟩ := kid_iff.mp hk
          have := (ain c k2 hbc).2.1.2
          rw [k3] at this
          have hlt := this.elim (fun q => by omega) (fun q => q.2)
          rw [kids_mod (by omega)] at hlt
          rw [kids_cut c hc, hk, hbc, ct_zero (n := 11 - c) (fun j hj => hl (c + 1 + j) (by omega) (by omega))]
          have : (if (true && true) = true then 1 else 0) = 1 := rfl
          omega
  · intro ⟨a1, a2, a3, a4⟩ g hg
    obtain ⟨t0, t1⟩ := treeOk_iff.mp a3
    have ar := hrl.mpr a4 g hg
    unfold stp
    cases hb : S.testBit g with
    | true =>
      rw [if_pos rfl]
      obtain ⟨b1, b2, b3, b4⟩ := okAt_iff.mp (t1 g hg hb)
      refine ⟨fun q => ?_, ⟨?_, ?_⟩, by rw [or_mod hb]; exact ar⟩
      · have : (oo &&& S).testBit g = true := by rw [Nat.testBit_and, q, hb]; rfl
        rw [a2, Nat.zero_testBit] at this; cases this
      · refine Nat.le_trans b3 ?_
        unfold kids nk
        exact ct_mono fun c _ q => by cases h2 : kid D g c <;> simp_all
      · rcases Nat.eq_zero_or_pos g with q | q
        · exact Or.inl q
        · have hp := w.p q hg
          have hpb : S.testBit (D 1 g) = true := b1.elim (fun z => by omega) id
          refine Or.inr ⟨by rw [mod_tb, decide_eq_true hp, Bool.true_and]; exact hpb, ?_⟩
          obtain ⟨-, -, -, c4⟩ := okAt_iff.mp (t1 (D 1 g) (by omega) hpb)
          have hk : kid D (D 1 g) g = true := kid_iff.mpr ⟨q, hg, rfl⟩
          rw [kids_cut g (by omega), hk, hb] at c4
          rw [kids_mod (by omega)]
          have : (if (true && true) = true then 1 else 0) = 1 := rfl
          omega
    | false =>
      rw [if_neg (by decide)]
      have g0 : g ≠ 0 := fun q => by rw [q, t0] at hb; cases hb
      refine ⟨fun q => ?_, ⟨g0, ?_⟩, by rw [no_mod hb]; exact ar⟩
      · have : (adn ii S).testBit g = true := by rw [adn_tb, q, hb]; rfl
        rw [a1, Nat.zero_testBit] at this; cases this
      · have hp := w.p (by omega) hg
        rw [mod_tb, decide_eq_true hp, Bool.true_and]
        cases hpb : S.testBit (D 1 g) with
        | false => exact Or.inl (by decide)
        | true =>
          obtain ⟨-, c2, c3, -⟩ := okAt_iff.mp (t1 (D 1 g) (by omega) hpb)
          have hk : kid D (D 1 g) g = true := kid_iff.mpr ⟨by omega, hg, rfl⟩
          refine Or.inr ⟨fun q => ?_, ?_⟩
          · have := c2 g (by omega) hk q
            rw [hb] at this; cases this
          · rw [kids_cut g (by omega), hk, hb] at c3
            rw [kids_mod (by omega), kidsB_sub (by omega)]
            have hm : ct (fun j => kid D (D 1 g) (g + 1 + j) && S.testBit (g + 1 + j)) (11 - g) ≤ ct (fun j => kid D (D 1 g) (g + 1 + j)) (11 - g) := ct_mono fun j _ q => by cases h2 : kid D (D 1 g) (g + 1 + j) <;> simp_all
            have : (if (true && false) = true then 1 else 0) = 0 := rfl
            omega
theorem rest_cmpl (w : WF D) {ii oo S : Nat} (hi : ii < 2 ^ D 0 0) : rest D ii oo 0 0 S ↔ S < 2 ^ D 0 0 ∧ cmpl D ii oo S = true := by
  constructor
  · intro ⟨h1, _, h3⟩
    exact ⟨h1, (stp_cmpl w hi h1).mp fun g hg => h3 g (Nat.zero_le g) hg⟩
  · intro ⟨h1, h2⟩
    exact ⟨h1, Nat.mod_one S, fun g _ hg => (stp_cmpl w hi h1).mpr h2 g hg⟩
end Cmpl
