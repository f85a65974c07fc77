section CDed4
variable {D : Dt} {i o : Nat} {C : St} {K : Kn}
def unK (D : Dt) (K : Kn) : Nat := ct (fun f => !knK K f) (D 0 0)
theorem stepF_kn {K' : Kn} {f : Nat} (h : stepF D K f = some K') (g : Nat) : knK K' g = (knK K g || decide (f = g)) := by
  have kn : ∀ (J : Kn) (l : Int32) (b : Bool), knK (putK J f l b) g = (knK J g || decide (f = g)) := fun J l b => by
    unfold knK putK
    cases b
    · show (J.1.1.testBit g || (J.1.2 ||| 2 ^ f).testBit g) = _
      rw [Nat.testBit_or, tb_pow, Bool.or_assoc]
    · show ((J.1.1 ||| 2 ^ f).testBit g || J.1.2.testBit g) = _
      rw [Nat.testBit_or, tb_pow]
      cases J.1.1.testBit g <;> cases J.1.2.testBit g <;> cases decide (f = g) <;> rfl
  unfold stepF at h
  split at h
  · split at h
    · cases h
    · cases h; exact kn _ _ _
  · cases h; exact kn _ _ _
theorem lowF_hit {K' : Kn} : ∀ {n f : Nat}, lowF D K n f = some K' → ∃ g, f ≤ g ∧ g < f + n ∧ knK K g = false ∧ stepF D K g = some K'
  | 0, f, h => by cases h
  | n + 1, f, h => by
    have e1 : lowF D K (n + 1) f = (if knK K f then lowF D K n (f + 1) else (match stepF D K f with | none => lowF D K n (f + 1) | some K' => some K')) := rfl
    rw [e1] at h
    cases hk : knK K f with
    | true =>
      rw [hk, if_pos rfl] at h
      obtain ⟨g, a, b, c⟩ := lowF_hit h
      exact ⟨g, by omega, by omega, c⟩
    | false =>
      rw [hk, if_neg (by decide)] at h
      cases hs : stepF D K f with
      | none =>
        rw [hs] at h
        obtain ⟨g, a, b, c⟩ := lowF_hit h
        exact ⟨g, by omega, by omega, c⟩
      | some K2 =>
        rw [hs] at h
        cases h
        exact ⟨f, Nat.le_refl f, by omega, hk, hs⟩
theorem low_some {K' : Kn} (h : low D K = some K') : ∃ g, g < D 0 0 ∧ knK K g = false ∧ stepF D K g = some K' := by
  obtain ⟨g, a, b, c⟩ := lowF_hit h
  exact ⟨g, by omega, c⟩
theorem ct_one_less {p q : Nat → Bool} {g : Nat} (h : ∀ k, k ≠ g → p k = q k) (hp : p g = false) (hq : q g = true) : ∀ n, ct p n + (if g < n then 1 else 0) = ct q n
  | 0 => rfl
  | n + 1 => by
    have ih := ct_one_less h hp hq n
    rw [ct_s, ct_s]
    by_cases z : n = g
    · rw [if_neg (by omega)] at ih
      rw [z, hp, hq, if_pos (show g < g + 1 by omega)]
      rw [z] at ih
      simp; omega
    · rw [h n z]
      by_cases y : g < n
      · rw [if_pos y] at ih
        rw [if_pos (show g < n + 1 by omega)]; omega
      · rw [if_neg y] at ih
        rw [if_neg (show ¬ g < n + 1 by omega)]; omega
theorem ct_less {p : Nat → Bool} (h : p 0 = false) : ∀ m, ct p (m + 1) ≤ m
  | 0 => by rw [ct_s, h]; exact Nat.le_refl 0
  | m + 1 => by
    have := ct_less h m
    rw [ct_s]
    split <;> omega
theorem unK_low {K' : Kn} (h : low D K = some K') : unK D K' < unK D K := by
  obtain ⟨g, g1, g2, g3⟩ := low_some h
  unfold unK
  have := ct_one_less (p := fun f => !knK K' f) (q := fun f => !knK K f) (g := g) (fun k hk => by
    show (!knK K' k) = (!knK K k)
    rw [stepF_kn g3, decide_eq_false (by omega), Bool.or_false]) (by
    show (!knK K' g) = false
    rw [stepF_kn g3, decide_eq_true rfl, Bool.or_true]; rfl) (by
    show (!knK K g) = true
    rw [g2]; rfl) (D 0 0)
  rw [if_pos g1] at this
  omega
theorem unK_lt (w : WF D) (hK : okK D K) : unK D K < D 0 0 := by
  obtain ⟨n1, n2⟩ := w.n
  unfold unK
  obtain ⟨m, hm⟩ : ∃ m, D 0 0 = m + 1 := ⟨D 0 0 - 1, by omega⟩
  have := ct_less (p := fun f => !knK K f) (by
    show (!knK K 0) = false
    unfold knK
    rw [hK.2.1]; rfl) m
  rw [← hm] at this
  omega
theorem okK_low {K' : Kn} (hK : okK D K) (h : low D K = some K') : okK D K' := by
  obtain ⟨g, g1, g2, g3⟩ := low_some h
  exact okK_step hK g1 g3
theorem lnS.trans {A B E : St} (h1 : lnS A B) (h2 : lnS B E) : lnS A E := ⟨h2.1.trans h1.1, h2.2.trans h1.2⟩
theorem cRun71 (w : WF D) : ∀ N k (C : St) (K : Kn), RelC D i o C → RepC D K C → okK D K → k + unK D K < D 0 0 → D 0 0 < k + N → ∃ C' K', pX0_run_71 N C 1 (nI k) = some C' ∧ Fin D K K' ∧ RelC D i o C' ∧ RepC D K' C' ∧ okK D K' ∧ lnS C C' := by
  obtain ⟨n1, n2⟩ := w.n
  intro N
  induction N with
  | zero => intro k C K h1 h2 h3 h4 h5; omega
  | succ N ih =>
    intro k C K h hr hK h4 h5
    have e0 : pX0_run_71 (N + 1) C 1 (nI k) = pX0_run_71_b (pX0_run_71 N) C 1 (nI k) := rfl
    rw [e0]
    unfold pX0_run_71_b
    rw [h.n, if_neg (nleN (by omega) (by omega) (by omega)), if_neg (show ¬ (1 : Int32) = 0 by decide)]
    have hl := cLow h hr w hK
    simp only [ltv, nI_1]
    cases q : low D K with
    | none =>
      rw [q] at hl
      rw [bd_t (show pX0_learnLowest C = _ from hl)]
      refine ⟨C, K, ?_, Fin_none q, h, hr, hK, rfl, rfl⟩
      obtain ⟨M, rfl⟩ : ∃ M, N = M + 1 := ⟨N - 1, by omega⟩
      show pX0_run_71_b (pX0_run_71 M) C 0 (nI (k + 1)) = some C
      unfold pX0_run_71_b
      split
      · rfl
      · rw [if_pos rfl]
    | some K' =>
      rw [q] at hl
      obtain ⟨C', c1, c2, c3, c4⟩ := hl
      rw [bd_t c1]
      have hu := unK_low q
      obtain ⟨C2, K2, d1, d2, d3, d4, d5, d6⟩ := ih (k + 1) C' K' c2 c3 (okK_low hK q) (by omega) (by omega)
      exact ⟨C2, K2, d1, Fin_some q d2, d3, d4, d5, c4.trans d6⟩
theorem cRun (h : RelC D i o C) (w : WF D) (hi : i < 2 ^ D 0 0) (ho : o < 2 ^ D 0 0) : ∃ C' K', pX0_run C (nI i) (nI o) = some C' ∧ Fin D (K0 i o) K' ∧ RelC D i o C' ∧ RepC D K' C' ∧ okK D K' ∧ lnS C C' := by
  obtain ⟨n1, n2⟩ := w.n
  have hor31 : i ||| o < 2 ^ 31 := Nat.lt_of_lt_of_le (p12 (Nat.or_lt_two_pow hi ho) n2) (by decide)
  unfold pX0_run
  simp only [ltv]
  have key : ∀ N k (E : St), k ≤ D 0 0 → D 0 0 < k + N → RelC D i o E → E.1 7 = nI (1 ||| i) → E.1 8 = nI o → (∀ g, g < k → E.2 11 g = if i.testBit g || o.testBit g then 100 else 32) → lnS C E → ∃ C' K', pX0_run_16 N E (nI i) (nI o) (nI k) = some C' ∧ Fin D (K0 i o) K' ∧ RelC D i o C' ∧ RepC D K' C' ∧ okK D K' ∧ lnS C C' := by
    intro N
    induction N with
    | zero => intro k E h1 h2; omega
    | succ N ih =>
      intro k E h1 h2 hE e7 e8 e11 hl
      have e0 : pX0_run_16 (N + 1) E (nI i) (nI o) (nI k) = pX0_run_16_b (pX0_run_16 N) E (nI i) (nI o) (nI k) := rfl
      rw [e0]
      unfold pX0_run_16_b pX0_run_50
      rw [hE.n]
      rcases Nat.lt_or_ge k (D 0 0) with q | q
      · rw [if_neg (nleN (by omega) (by omega) q), nI_lor, bd_t (cHas _ hor31 (by omega)), Nat.testBit_or]
        simp only [ltv, nI_1, gd_ix (show k < 12 by omega), nI_clp (show k < 2 ^ 31 by omega)]
        have step : ∀ v : Int32, v = (if i.testBit k || o.testBit k then 100 else 32) → ∃ C' K', pX0_run_16 N (sA E 11 k v) (nI i) (nI o) (nI (k + 1)) = some C' ∧ Fin D (K0 i o) K' ∧ RelC D i o C' ∧ RepC D K' C' ∧ okK D K' ∧ lnS C C' := fun v hv => by
          refine ih (k + 1) _ q (by omega) (hE.a (by decide)) e7 e8 (fun g hg => ?_) ⟨hl.1, ?_⟩
          · rw [sA_eq]
            by_cases z : g = k
            · rw [z, ← hv]; exact if_pos rfl
            · rw [show upd (E.2 11) k v g = E.2 11 g from if_neg z]
              exact e11 g (by omega)
          · rw [sA_ne (by decide)]; exact hl.2
        cases z : (i.testBit k || o.testBit k) with
        | true => rw [if_neg (show ¬ b2i true = 0 by decide)]; exact step _ (by rw [z]; rfl)
        | false => rw [if_pos (show b2i false = 0 from rfl)]; exact step _ (by rw [z]; rfl)
      · have ek : k = D 0 0 := by omega
        subst ek
        rw [if_pos (nleI (by omega) (by omega) q), gd_t (show ix 0 12 by decide)]
        simp only [ltv, show (0 : Int32).toNatClampNeg = 0 by decide, show vp_nar .char (111 : Int32) = 111 by decide]
        have hok := okK_0 w hi ho
        have hu := unK_lt w hok
        obtain ⟨C', K', d1, d2, d3, d4, d5, d6⟩ := cRun71 (i := i) (o := o) w FU 0 (sA E 11 0 111) (K0 i o) (hE.a (by decide)) ⟨⟨e7, e8⟩, fun g hg => by
          rw [sA_eq]
          show upd (E.2 11) 0 111 g = clL (if g = 0 then 111 else if i.testBit g || o.testBit g then 100 else 45)
          by_cases z : g = 0
          · rw [if_pos z, show upd (E.2 11) 0 111 g = 111 from if_pos z]; rfl
          · rw [if_neg z, show upd (E.2 11) 0 111 g = E.2 11 g from if_neg z, e11 g hg]
            split <;> rfl, fun g hg z => by
          have z : (if g = 0 then (111 : Int32) else if i.testBit g || o.testBit g then 100 else 45) = 114 := z
          split at z
          · exact absurd z (by decide)
          · split at z <;> exact absurd z (by decide)⟩ hok (by omega) (by unfold FU; omega)
        refine ⟨C', K', d1, d2, d3, d4, d5, lnS.trans ?_ d6⟩
        exact ⟨hl.1, by rw [sA_ne (by decide)]; exact hl.2⟩
  refine key FU 0 _ (Nat.zero_le _) (by unfold FU; omega) ((h.s (by decide)).s (by decide)) ?_ ?_ (fun g hg => absurd hg (Nat.not_lt_zero g)) ⟨?_, rfl⟩
  · rw [sS_ne (by decide), sS_eq]; exact nI_lor 1 i
  · rw [sS_eq]
  · rw [sS_ne (by decide), sS_ne (by decide)]
theorem cDeduce (h : RelC D i o C) (w : WF D) (hi : i < 2 ^ D 0 0) (ho : o < 2 ^ D 0 0) : ∃ C' K', pX6_deduce C = some C' ∧ Fin D (K0 i o) K' ∧ RelC D i o C' ∧ RepC D K' C' ∧ okK D K' ∧ lnS C C' := by
  obtain ⟨C', K', d1, d2⟩ := cRun h w hi ho
  refine ⟨C', K', ?_, d2⟩
  unfold pX6_deduce
  rw [h.ci, h.co, bd_t d1]
end CDed4
