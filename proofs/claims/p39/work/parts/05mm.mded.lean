section MDed2
variable {D : Dt} {i o : Nat} {M : St} {K : Kn}
theorem mBec (h : RelM D i o M) (hr : RepM D K M) (w : WF D) {f : Nat} (hf : f < D 0 0) {l x : Int32} {b : Bool} (hx : x = b2i b) (hl : vp_nar .char l = l) (h114 : l = 114 → M.2 15 f = nI (K.2.2 f)) : ∃ M', pX7_becomes M (nI f) x l = some (1, M') ∧ RelM D i o M' ∧ RepM D (putK K f l b) M' ∧ M'.1 7 = M.1 7 := by
  obtain ⟨n1, n2⟩ := w.n
  have f12 : f < 12 := by omega
  subst hx
  have hA : ∀ g, g < D 0 0 → upd (M.2 8) f l g = upd K.2.1 f l g := fun g hg => by
    by_cases q : g = f
    · subst q
      rw [show upd (M.2 8) g l g = l from if_pos rfl, show upd K.2.1 g l g = l from if_pos rfl]
    · rw [show upd (M.2 8) f l g = M.2 8 g from if_neg q, show upd K.2.1 f l g = K.2.1 g from if_neg q]
      exact hr.2.1 g hg
  have hB : ∀ g, g < D 0 0 → upd K.2.1 f l g = 114 → M.2 15 g = nI (K.2.2 g) := fun g hg hq => by
    by_cases q : g = f
    · subst q
      rw [show upd K.2.1 g l g = l from if_pos rfl] at hq
      exact h114 hq
    · rw [show upd K.2.1 f l g = K.2.1 g from if_neg q] at hq
      exact hr.2.2 g hg hq
  have or0 : ∀ x : Int32, x ||| 0 = x := fun x => Int32.or_zero
  have fin : ∀ (v5 v6 : Int32), v5 = nI (putK K f l b).1.1 → v6 = nI (putK K f l b).1.2 → RelM D i o (sA (sS (sS M 5 v5) 6 v6) 8 f l) ∧ RepM D (putK K f l b) (sA (sS (sS M 5 v5) 6 v6) 8 f l) ∧ (sA (sS (sS M 5 v5) 6 v6) 8 f l).1 7 = M.1 7 := fun v5 v6 e5 e6 => by
    refine ⟨((h.s (by decide)).s (by decide)).a (Or.inl rfl), ⟨⟨?_, ?_⟩, fun g hg => ?_, fun g hg hq => ?_⟩, ?_⟩
    · show (sS (sS M 5 v5) 6 v6).1 5 = _
      rw [sS_ne (by decide), sS_eq, e5]
    · show (sS (sS M 5 v5) 6 v6).1 6 = _
      rw [sS_eq, e6]
    · rw [sA_eq]; exact hA g hg
    · rw [sA_ne (by decide)]; exact hB g hg hq
    · show (sS (sS M 5 v5) 6 v6).1 7 = _
      rw [sS_ne (by decide), sS_ne (by decide)]
  unfold pX7_becomes pX7_becomes_16 pX7_becomes_36
  simp only [ltv, gd_ix f12, nI_clp (show f < 2 ^ 31 by omega), hl, nI_sh f (by omega), or0]
  cases b with
  | false =>
    rw [if_pos (show b2i false = 0 by decide)]
    refine ⟨_, rfl, fin _ _ ?_ ?_⟩
    · exact hr.1.1
    · show (sS M 5 (M.1 5)).1 6 ||| nI (2 ^ f) = nI (K.1.2 ||| 2 ^ f)
      rw [sS_ne (by decide), hr.1.2, nI_lor]
  | true =>
    rw [if_neg (show ¬ b2i true = 0 by decide)]
    refine ⟨_, rfl, fin _ _ ?_ ?_⟩
    · show M.1 5 ||| nI (2 ^ f) = nI (K.1.1 ||| 2 ^ f)
      rw [hr.1.1, nI_lor]
    · show (sS M 5 (M.1 5 ||| nI (2 ^ f))).1 6 = nI K.1.2
      rw [sS_ne (by decide), hr.1.2]
theorem mHit (h : RelM D i o M) (hr : RepM D K M) (w : WF D) {f : Nat} (hf : f < D 0 0) (l x : Int32) (b : Bool) (hx : x = b2i b) (hl : vp_nar .char l = l) (h114 : l = 114 → M.2 15 f = nI (K.2.2 f)) : ∃ M', bd (pX7_becomes M (nI f) x l) (fun u => gd (okZ (u.1)) (some (u.1, u.2))) = some (1, M') ∧ RelM D i o M' ∧ RepM D (putK K f l b) M' ∧ M'.1 7 = M.1 7 := by
  obtain ⟨M', e1, e2⟩ := mBec h hr w hf hx hl h114
  exact ⟨M', by rw [bd_t e1, gd_t (Or.inr rfl)], e2⟩
theorem mRules (h : RelM D i o M) (hr : RepM D K M) (w : WF D) (hK : okK D K) {f : Nat} (hf : f < D 0 0) : match frs D K.1.1 K.1.2 f (D 0 1) 0 with
    | none => pX7_isKnown_202 FU M (nI f) 0 = some (0, M)
    | some r => ∃ M', pX7_isKnown_202 FU M (nI f) 0 = some (1, M') ∧ RelM D i o M' ∧ RepM D (putK (byK K f r) f 114 (decide (tellL D K.1.1 K.1.2 r f = 1))) M' ∧ M'.1 7 = M.1 7 := by
  obtain ⟨n1, n2⟩ := w.n
  have r20 := w.r
  have f12 : f < 12 := by omega
  have key : ∀ N r, r ≤ D 0 1 → D 0 1 < r + N → (match frs D K.1.1 K.1.2 f (D 0 1 - r) r with
    | none => pX7_isKnown_202 N M (nI f) (nI r) = some (0, M)
    | some q => ∃ M', pX7_isKnown_202 N M (nI f) (nI r) = some (1, M') ∧ RelM D i o M' ∧ RepM D (putK (byK K f q) f 114 (decide (tellL D K.1.1 K.1.2 q f = 1))) M' ∧ M'.1 7 = M.1 7) := by
    intro N
    induction N with
    | zero => intro r h1 h2; omega
    | succ N ih =>
      intro r h1 h2
      have e0 : pX7_isKnown_202 (N + 1) M (nI f) (nI r) = pX7_isKnown_202_b (pX7_isKnown_202 N) M (nI f) (nI r) := rfl
      rw [e0]
      unfold pX7_isKnown_202_b
      rw [h.r]
      rcases Nat.lt_or_ge r (D 0 1) with q | q
      · have nx := ih (r + 1) q (by omega)
        have hl := (w.ru q).2.2.2.2.1
        rw [if_neg (nleN (by omega) (by omega) q), gd_ix (show r < 20 by omega), nI_clp (show r < 2 ^ 31 by omega), (h.ru q).1, bd_t (mTold h hr w hK q hf)]
        obtain ⟨j, hj⟩ : ∃ j, D 0 1 - r = j + 1 := ⟨D 0 1 - r - 1, by omega⟩
        rw [show D 0 1 - (r + 1) = j by omega] at nx
        rw [hj]
        have e1 : frs D K.1.1 K.1.2 f (j + 1) r = if tellL D K.1.1 K.1.2 r f = 0 then frs D K.1.1 K.1.2 f j (r + 1) else some r := rfl
        rw [e1]
        have e2 : (if nI (D 9 r) = 0 then pX7_isKnown_229 (pX7_isKnown_202 N) M (nI f) (nI r) (tv (tellR D K.1.1 K.1.2 r f)) else pX7_isKnown_229 (pX7_isKnown_202 N) M (nI f) (nI r) 0) = pX7_isKnown_229 (pX7_isKnown_202 N) M (nI f) (nI r) (tv (tellL D K.1.1 K.1.2 r f)) := by
          unfold tellL
          by_cases z : D 9 r = 1
          · rw [if_neg (fun y => by have := (nI0 (by omega)).mp y; omega), if_pos z]; rfl
          · rw [if_pos (by rw [show D 9 r = 0 by omega]; rfl), if_neg z]
        rw [e2]
        unfold pX7_isKnown_229 pX7_isKnown_255
        by_cases z : tellL D K.1.1 K.1.2 r f = 0
        · rw [if_pos z, z, if_pos (show tv 0 = 0 from rfl)]
          simp only [ltv, nI_1]
          exact nx
        · have tz : ¬ tv (tellL D K.1.1 K.1.2 r f) = 0 := by
            unfold tv
            rw [if_neg z]
            split <;> decide
          rw [if_neg z, if_neg tz]
          simp only [ltv, gd_ix f12, nI_clp (show f < 2 ^ 31 by omega)]
          have hR1 : RelM D i o (sA M 15 f (nI r)) := h.a (Or.inr rfl)
          have hR2 : RepM D (byK K f r) (sA M 15 f (nI r)) := by
            refine ⟨⟨hr.1.1, hr.1.2⟩, fun g hg => ?_, fun g hg hq => ?_⟩
            · rw [sA_ne (by decide)]; exact hr.2.1 g hg
            · show (sA M 15 f (nI r)).2 15 g = nI (if g = f then r else K.2.2 g)
              rw [sA_eq]
              by_cases y : g = f
              · rw [if_pos y]; exact if_pos y
              · rw [if_neg y, show upd (M.2 15) f (nI r) g = M.2 15 g from if_neg y]; exact hr.2.2 g hg hq
          have h15 : (114 : Int32) = 114 → (sA M 15 f (nI r)).2 15 f = nI ((byK K f r).2.2 f) := fun _ => by
            show (sA M 15 f (nI r)).2 15 f = nI (if f = f then r else K.2.2 f)
            rw [sA_eq, if_pos rfl]; exact if_pos rfl
          by_cases y : tellL D K.1.1 K.1.2 r f = 1
          · have t1 : ¬ tv (tellL D K.1.1 K.1.2 r f) ≤ 0 := by rw [y]; decide
            rw [if_neg t1, decide_eq_true y]
            obtain ⟨M', m1, m2, m3, m4⟩ := mHit hR1 hR2 w hf 114 1 true rfl (by decide) h15
            exact ⟨M', m1, m2, m3, m4⟩
          · have t1 : tv (tellL D K.1.1 K.1.2 r f) ≤ 0 := by
              unfold tv
              rw [if_neg z, if_neg y]; decide
            rw [if_pos t1, decide_eq_false y]
            obtain ⟨M', m1, m2, m3, m4⟩ := mHit hR1 hR2 w hf 114 0 false rfl (by decide) h15
            exact ⟨M', m1, m2, m3, m4⟩
      · rw [if_pos (nleI (by omega) (by omega) q), show D 0 1 - r = 0 by omega]
        rfl
  exact key FU 0 (Nat.zero_le _) (by unfold FU; omega)
theorem mKnown (h : RelM D i o M) (hr : RepM D K M) (w : WF D) (hK : okK D K) {f : Nat} (h0 : 1 ≤ f) (hf : f < D 0 0) : match stepF D K f with
    | none => pX7_isKnown M (nI f) = some (0, M)
    | some K' => ∃ M', pX7_isKnown M (nI f) = some (1, M') ∧ RelM D i o M' ∧ RepM D K' M' ∧ M'.1 7 = M.1 7 := by
  obtain ⟨n1, n2⟩ := w.n
  have f12 : f < 12 := by omega
  have hp := w.p h0 hf
  have p12' : D 1 f < 12 := by omega
  have g1 := w.g f12
  have g2 := w.g p12'
  have q31 : ∀ {x : Nat}, x < 2 ^ D 0 0 → x < 2 ^ 31 := fun hx => Nat.lt_of_lt_of_le (p12 hx n2) (by decide)
  have k1 := kids_le (D := D) (f := D 1 f) (S := K.1.1)
  have k2 := kno_le (D := D) (f := D 1 f) (X := K.1.2)
  have k3 := kno_le (D := D) (f := f) (X := K.1.2)
  have k4 := kids_le (D := D) (f := f) (S := K.1.1)
  have cT : ∀ {g : Nat}, g < 12 → pX7_children M (nI g) 1 = some (nI (kids D g K.1.1)) := fun hg => mChildren h hr w hK hg true
  have cF : ∀ {g : Nat}, g < 12 → pX7_children M (nI g) 0 = some (nI (kno D g K.1.2)) := fun hg => mChildren h hr w hK hg false
  have hin := mHas M (q31 hK.1.1) (show D 1 f < 32 by omega)
  have hout := mHas M (q31 hK.1.2) (show D 1 f < 32 by omega)
  have hit : ∀ (l x : Int32) (b : Bool), treeL D K.1.1 K.1.2 f = l → l ≠ 0 → inL l = b → x = b2i b → l ≠ 114 → vp_nar .char l = l → (match stepF D K f with
    | none => bd (pX7_becomes M (nI f) x l) (fun u => gd (okZ (u.1)) (some (u.1, u.2))) = some (0, M)
    | some K' => ∃ M', bd (pX7_becomes M (nI f) x l) (fun u => gd (okZ (u.1)) (some (u.1, u.2))) = some (1, M') ∧ RelM D i o M' ∧ RepM D K' M' ∧ M'.1 7 = M.1 7) := fun l x b t1 t2 t3 t4 t5 t6 => by
    have e : stepF D K f = some (putK K f l b) := by
      unfold stepF
      rw [t1, if_neg t2, t3]
    rw [e]
    exact mHit h hr w hf l x b t4 t6 (fun q => absurd q t5)
  have le0 : nI (kids D f K.1.1) ≤ 0 ↔ kids D f K.1.1 ≤ 0 := nI_leI (b := 0) (by omega) (by decide)
  unfold pX7_isKnown
  simp only [ltv, gd_ix f12, nI_clp (show f < 2 ^ 31 by omega), h.p h0 hf, h.ma f12, hr.1.1, hr.1.2, bd_t (cT f12), le0, bd_t hin, bd_t hout, nI0 (show D 4 f < 2 ^ 31 by omega)]
  by_cases a1 : kids D f K.1.1 ≤ 0
  · rw [if_pos a1]
    have a1' : ¬ 0 < kids D f K.1.1 := by omega
    cases a2 : K.1.2.testBit (D 1 f) with
    | true =>
      rw [if_neg (show ¬ b2i true = 0 by decide)]
      exact hit 112 0 false (by unfold treeL; rw [if_neg a1', if_pos a2]) (by decide) rfl rfl (by decide) (by decide)
    | false =>
      rw [if_pos (show b2i false = 0 from rfl)]
      have a2' : ¬ K.1.2.testBit (D 1 f) = true := by rw [a2]; decide
      -- the rest, from the off child on
      have t74 : ¬ (decide (D 4 f = 1) && K.1.1.testBit (D 1 f)) = true → (match stepF D K f with
          | none => pX7_isKnown_74 M (nI f) (nI (D 1 f)) = some (0, M)
          | some K' => ∃ M', pX7_isKnown_74 M (nI f) (nI (D 1 f)) = some (1, M') ∧ RelM D i o M' ∧ RepM D K' M' ∧ M'.1 7 = M.1 7) := by
        intro a3
        unfold pX7_isKnown_74
        rw [bd_t (mOff h hr w hK f12), hr.1.1, bd_t hin]
        cases a4 : offK D f K.1.2 with
        | true =>
          rw [if_neg (show ¬ b2i true = 0 by decide)]
          exact hit 107 0 false (by unfold treeL; rw [if_neg a1', if_neg a2', if_neg a3, if_pos a4]) (by decide) rfl rfl (by decide) (by decide)
        | false =>
          rw [if_pos (show b2i false = 0 from rfl)]
          have a4' : ¬ offK D f K.1.2 = true := by rw [a4]; decide
          have t161 : ¬ (K.1.1.testBit (D 1 f) && decide (kids D (D 1 f) K.1.1 = D 3 (D 1 f))) = true → ¬ (K.1.1.testBit (D 1 f) && decide (kno D (D 1 f) K.1.2 = D 2 (D 1 f))) = true → (match stepF D K f with
              | none => pX7_isKnown_161 M (nI f) = some (0, M)
              | some K' => ∃ M', pX7_isKnown_161 M (nI f) = some (1, M') ∧ RelM D i o M' ∧ RepM D K' M' ∧ M'.1 7 = M.1 7) := by
            intro a5 a6
            unfold pX7_isKnown_161 pX7_isKnown_191
            simp only [bd_t (cF f12), gd_ix f12, nI_clp (show f < 2 ^ 31 by omega), h.lo f12, bd_t (cT f12), h.hi hf]
            by_cases a7 : kno D f K.1.2 < D 2 f
            · rw [if_pos (nltI (by omega) (by omega) a7)]
              exact hit 103 0 false (by unfold treeL; rw [if_neg a1', if_neg a2', if_neg a3, if_neg a4', if_neg a5, if_neg a6, if_pos a7]) (by decide) rfl rfl (by decide) (by decide)
            · rw [if_neg (nltN (by omega) (by omega) (by omega)), if_pos (nleI (by omega) (by omega) (by omega))]
              have t0 : treeL D K.1.1 K.1.2 f = 0 := by unfold treeL; rw [if_neg a1', if_neg a2', if_neg a3, if_neg a4', if_neg a5, if_neg a6, if_neg a7]
              have mr := mRules h hr w hK hf
              unfold stepF
              rw [if_pos t0]
              cases q : frs D K.1.1 K.1.2 f (D 0 1) 0 with
              | none => rw [q] at mr; exact mr
              | some r => rw [q] at mr; exact mr
          have t126 : ¬ (K.1.1.testBit (D 1 f) && decide (kids D (D 1 f) K.1.1 = D 3 (D 1 f))) = true → (match stepF D K f with
              | none => pX7_isKnown_126 M (nI f) (nI (D 1 f)) = some (0, M)
              | some K' => ∃ M', pX7_isKnown_126 M (nI f) (nI (D 1 f)) = some (1, M') ∧ RelM D i o M' ∧ RepM D K' M' ∧ M'.1 7 = M.1 7) := by
            intro a5
            unfold pX7_isKnown_126
            rw [hr.1.1, bd_t hin]
            cases a6 : K.1.1.testBit (D 1 f) with
            | false =>
              rw [if_pos (show b2i false = 0 from rfl)]
              exact t161 a5 (by rw [a6]; simp)
            | true =>
              rw [if_neg (show ¬ b2i true = 0 by decide), bd_t (cF p12')]
              simp only [gd_ix p12', nI_clp (show D 1 f < 2 ^ 31 by omega), h.lo p12', nI_eq (show kno D (D 1 f) K.1.2 < 2 ^ 31 by omega) (show D 2 (D 1 f) < 2 ^ 31 by omega)]
              by_cases a7 : kno D (D 1 f) K.1.2 = D 2 (D 1 f)
              · rw [if_pos a7]
                exact hit 110 1 true (by unfold treeL; rw [if_neg a1', if_neg a2', if_neg a3, if_neg a4', if_neg a5, if_pos (by rw [a6, decide_eq_true a7]; rfl)]) (by decide) rfl rfl (by decide) (by decide)
              · rw [if_neg a7]
                exact t161 a5 (by rw [decide_eq_false a7]; simp)
          cases a5 : K.1.1.testBit (D 1 f) with
          | false =>
            rw [if_pos (show b2i false = 0 from rfl)]
            exact t126 (by rw [a5]; simp)
          | true =>
            rw [if_neg (show ¬ b2i true = 0 by decide), bd_t (cT p12')]
            simp only [gd_ix p12', nI_clp (show D 1 f < 2 ^ 31 by omega), h.hi (show D 1 f < D 0 0 by omega), nI_eq (show kids D (D 1 f) K.1.1 < 2 ^ 31 by omega) (show D 3 (D 1 f) < 2 ^ 31 by omega)]
            by_cases a6 : kids D (D 1 f) K.1.1 = D 3 (D 1 f)
            · rw [if_pos a6]
              exact hit 102 0 false (by unfold treeL; rw [if_neg a1', if_neg a2', if_neg a3, if_neg a4', if_pos (by rw [a5, decide_eq_true a6]; rfl)]) (by decide) rfl rfl (by decide) (by decide)
            · rw [if_neg a6]
              exact t126 (by rw [decide_eq_false a6]; simp)
      by_cases a3 : D 4 f = 0
      · rw [if_pos a3]
        exact t74 (by rw [decide_eq_false (show ¬ D 4 f = 1 by omega)]; simp)
      · rw [if_neg a3]
        cases a5 : K.1.1.testBit (D 1 f) with
        | false =>
          rw [if_pos (show b2i false = 0 from rfl)]
          exact t74 (by rw [a5]; simp)
        | true =>
          rw [if_neg (show ¬ b2i true = 0 by decide)]
          exact hit 109 1 true (by unfold treeL; rw [if_neg a1', if_neg a2', if_pos (by rw [a5, decide_eq_true (show D 4 f = 1 by omega)]; rfl)]) (by decide) rfl rfl (by decide) (by decide)
  · rw [if_neg a1]
    exact hit 99 1 true (by unfold treeL; rw [if_pos (by omega)]) (by decide) rfl rfl (by decide) (by decide)
end MDed2
