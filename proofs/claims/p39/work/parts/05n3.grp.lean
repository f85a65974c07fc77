section Grp
variable {D : Dt} {i o : Nat} {C M : St}
def grD (D : Dt) (f lo hi : Nat) : Dt := seD (seD D 2 f lo) 3 f hi
theorem gr_row {f lo hi x : Nat} (h2 : x ≠ 2) (h3 : x ≠ 3) : grD D f lo hi x = D x := by
  unfold grD
  rw [se_row h3, se_row h2]
theorem gr_2 {f lo hi y : Nat} : grD D f lo hi 2 y = if y = f then lo else D 2 y := by
  unfold grD
  rw [se_row (by decide), se_at]
theorem gr_3 {f lo hi y : Nat} : grD D f lo hi 3 y = if y = f then hi else D 3 y := by
  unfold grD
  rw [se_at, se_row (by decide)]
theorem gr_back {f lo hi : Nat} : grD (grD D f lo hi) f (D 2 f) (D 3 f) = D := by
  funext x y
  by_cases h2 : x = 2
  · subst h2
    rw [gr_2, gr_2]
    by_cases h : y = f
    · rw [if_pos h, h]
    · rw [if_neg h, if_neg h]
  · by_cases h3 : x = 3
    · subst h3
      rw [gr_3, gr_3]
      by_cases h : y = f
      · rw [if_pos h, h]
      · rw [if_neg h, if_neg h]
    · rw [gr_row h2 h3, gr_row h2 h3]
theorem gr_wf (w : WF D) {f lo hi : Nat} (hf : f < D 0 0) (h1 : lo ≤ 12) (h2 : hi ≤ 12) : WF (grD D f lo hi) := by
  obtain ⟨w1, w5, w6, w7, w8, w9, w10, w11⟩ := w
  have g00 : grD D f lo hi 0 = D 0 := gr_row (by decide) (by decide)
  refine ⟨by rw [g00]; exact w1, ?_, ?_, ?_, ?_, ?_, ?_, ?_⟩
  · rw [g00, gr_row (x := 1) (by decide) (by decide)]; exact w5
  · rw [gr_row (x := 4) (by decide) (by decide)]
    intro g hg
    obtain ⟨a1, a2, a3⟩ := w6 g hg
    refine ⟨?_, ?_, a3⟩
    · rw [gr_2]; split
      · exact h1
      · exact a1
    · rw [gr_3]; split
      · exact h2
      · exact a2
  · rw [g00, gr_row (x := 4) (by decide) (by decide)]
    intro g hg h12
    obtain ⟨a1, a2⟩ := w7 g hg h12
    refine ⟨?_, a2⟩
    rw [gr_2, if_neg (by omega)]; exact a1
  · rw [g00, gr_row (x := 5) (by decide) (by decide), gr_row (x := 6) (by decide) (by decide), gr_row (x := 7) (by decide) (by decide), gr_row (x := 8) (by decide) (by decide), gr_row (x := 9) (by decide) (by decide)]; exact w8
  · rw [g00, gr_row (x := 10) (by decide) (by decide)]; exact w9
  · rw [gr_row (x := 10) (by decide) (by decide)]; exact w10
  · rw [g00, gr_row (x := 11) (by decide) (by decide), gr_row (x := 12) (by decide) (by decide), gr_row (x := 13) (by decide) (by decide), gr_row (x := 14) (by decide) (by decide)]; exact w11
theorem gr_RelC (hC : RelC D i o C) {f lo hi : Nat} : RelC (grD D f lo hi) i o (sA (sA C 2 f (nI lo)) 3 f (nI hi)) := by
  obtain ⟨⟨r1, r2, r3, r4, r5, r6, r7⟩, ⟨p1, p2, p3, p4, p5⟩, q1, q2, q3⟩ := hC
  have g00 : grD D f lo hi 0 = D 0 := gr_row (by decide) (by decide)
  have row : ∀ x, x ≠ 2 → x ≠ 3 → (sA (sA C 2 f (nI lo)) 3 f (nI hi)).2 x = C.2 x := fun x h2 h3 => by rw [sA_ne h3, sA_ne h2]
  refine ⟨⟨r1, r2, ?_, ?_, ?_, ?_, ?_⟩, ⟨?_, ?_, ?_, ?_, ?_⟩, ?_, ?_, ?_⟩
  · rw [mandM_cong (gr_row (by decide) (by decide))]; exact r3
  · rw [g00]; exact r4
  · rw [forceM_cong (gr_row (by decide) (by decide)) (by rw [g00])]; exact r5
  · rw [g00]; exact r6
  · rw [g00]; exact r7
  · rw [row 0 (by decide) (by decide)]; exact p1
  · rw [row 0 (by decide) (by decide), g00, gr_row (x := 1) (by decide) (by decide)]; exact p2
  · rw [row 1 (by decide) (by decide)]
    intro g hg
    rw [kidM_cong (gr_row (by decide) (by decide)) (by rw [g00])]; exact p3 g hg
  · intro g hg
    rw [sA_ne (by decide), sA_eq, gr_2]
    by_cases y : g = f
    · rw [if_pos y]; exact if_pos y
    · rw [if_neg y, ← p4 g hg]; exact if_neg y
  · rw [g00]
    intro g hg
    rw [sA_eq, gr_3, sA_ne (by decide)]
    by_cases y : g = f
    · rw [if_pos y]; exact if_pos y
    · rw [if_neg y, ← p5 g hg]; exact if_neg y
  · rw [row 4 (by decide) (by decide), row 5 (by decide) (by decide), row 6 (by decide) (by decide), g00]
    intro k hk
    have e : wantM (grD D f lo hi) k = wantM D k ∧ unwM (grD D f lo hi) k = unwM D k ∧ lastM (grD D f lo hi) k = lastM D k := by
      unfold wantM unwM lastM
      rw [gr_row (x := 5) (by decide) (by decide), gr_row (x := 6) (by decide) (by decide), gr_row (x := 7) (by decide) (by decide), gr_row (x := 8) (by decide) (by decide)]
      exact ⟨rfl, rfl, rfl⟩
    rw [e.1, e.2.1, e.2.2]; exact q1 k hk
  · rw [row 7 (by decide) (by decide), gr_row (x := 10) (by decide) (by decide)]; exact q2
  · rw [row 8 (by decide) (by decide), row 9 (by decide) (by decide), row 10 (by decide) (by decide), g00, gr_row (x := 11) (by decide) (by decide), gr_row (x := 14) (by decide) (by decide)]
    intro k hk
    have e : detM (grD D f lo hi) k = detM D k := by
      unfold detM
      rw [gr_row (x := 11) (by decide) (by decide), gr_row (x := 12) (by decide) (by decide), gr_row (x := 13) (by decide) (by decide)]
    rw [e]; exact q3 k hk
theorem gr_RelM (hM : RelM D i o M) {f lo hi : Nat} : RelM (grD D f lo hi) i o (sA (sA M 2 f (nI lo)) 3 f (nI hi)) := by
  obtain ⟨⟨r1, r2, r3, r4, r5⟩, ⟨p1, p2, p3, p4, p5, p6⟩, q1, q2⟩ := hM
  have g00 : grD D f lo hi 0 = D 0 := gr_row (by decide) (by decide)
  have row : ∀ x, x ≠ 2 → x ≠ 3 → (sA (sA M 2 f (nI lo)) 3 f (nI hi)).2 x = M.2 x := fun x h2 h3 => by rw [sA_ne h3, sA_ne h2]
  refine ⟨⟨by rw [g00]; exact r1, by rw [g00]; exact r2, by rw [g00]; exact r3, r4, r5⟩, ⟨?_, ?_, ?_, ?_, ?_, ?_⟩, ?_, ?_⟩
  · rw [row 0 (by decide) (by decide)]; exact p1
  · rw [row 0 (by decide) (by decide), g00, gr_row (x := 1) (by decide) (by decide)]; exact p2
  · rw [row 1 (by decide) (by decide), g00, gr_row (x := 10) (by decide) (by decide)]; exact p3
  · intro g hg
    rw [sA_ne (by decide), sA_eq, gr_2]
    by_cases y : g = f
    · rw [if_pos y]; exact if_pos y
    · rw [if_neg y, ← p4 g hg]; exact if_neg y
  · rw [g00]
    intro g hg
    rw [sA_eq, gr_3, sA_ne (by decide)]
    by_cases y : g = f
    · rw [if_pos y]; exact if_pos y
    · rw [if_neg y, ← p5 g hg]; exact if_neg y
  · rw [row 4 (by decide) (by decide), gr_row (x := 4) (by decide) (by decide)]; exact p6
  · rw [row 5 (by decide) (by decide), row 6 (by decide) (by decide), row 9 (by decide) (by decide), row 10 (by decide) (by decide), row 11 (by decide) (by decide), g00, gr_row (x := 5) (by decide) (by decide), gr_row (x := 6) (by decide) (by decide), gr_row (x := 7) (by decide) (by decide), gr_row (x := 8) (by decide) (by decide), gr_row (x := 9) (by decide) (by decide)]; exact q1
  · rw [row 7 (by decide) (by decide), row 12 (by decide) (by decide), row 13 (by decide) (by decide), row 14 (by decide) (by decide), g00, gr_row (x := 11) (by decide) (by decide), gr_row (x := 12) (by decide) (by decide), gr_row (x := 13) (by decide) (by decide), gr_row (x := 14) (by decide) (by decide)]; exact q2
theorem mKidsLoop (hM : RelM D i o M) (w : WF D) {f : Nat} (hf : f < 12) : pX7_setGroup_100 M (nI f) = some (nI (nk D f), M) := by
  obtain ⟨n1, n2⟩ := w.n
  have eP : nk D f = ct (kid D f) (D 0 0) := by
    unfold nk
    exact ct_ext n2 (fun k a _ => by
      cases q : kid D f k with
      | false => rfl
      | true => have := (kid_iff.mp q).2.1; omega)
  rw [eP]
  unfold pX7_setGroup_100
  have key : ∀ N c, c ≤ D 0 0 → D 0 0 < c + N → 1 ≤ c → pX7_setGroup_106 N M (nI f) (nI (ct (kid D f) c)) (nI c) = some (nI (ct (kid D f) (D 0 0)), M) := by
    intro N
    induction N with
    | zero => intro c h1 h2; omega
    | succ N ih =>
      intro c h1 h2 h3
      show pX7_setGroup_106_b (pX7_setGroup_106 N) M (nI f) _ (nI c) = _
      unfold pX7_setGroup_106_b pX7_setGroup_133
      rw [hM.n]
      rcases Nat.lt_or_ge c (D 0 0) with q | q
      · have nx := ih (c + 1) q (by omega) (by omega)
        have hp := w.p h3 q
        have kE : kid D f c = decide (D 1 c = f) := by unfold kid; rw [decide_eq_true h3, decide_eq_true q]; rfl
        rw [ct_s, kE] at nx
        have A0 : ∀ n, nI n + 0 = nI (n + 0) := fun n => Int32.add_zero _
        rw [if_neg (nleN (by omega) (by omega) q)]
        simp only [ltv, gd_ix (show c < 12 by omega), nI_clp (show c < 2 ^ 31 by omega), hM.p h3 q, nI_eq (show D 1 c < 2 ^ 31 by omega) (show f < 2 ^ 31 by omega), nI_1, A0]
        by_cases z : D 1 c = f
        · rw [if_pos z]
          rw [decide_eq_true z] at nx
          exact nx
        · rw [if_neg z]
          rw [decide_eq_false z] at nx
          exact nx
      · have : c = D 0 0 := by omega
        rw [this, if_pos (nleI (by omega) (by omega) (Nat.le_refl _))]
  exact key FU 1 n1 (by unfold FU; omega) (Nat.le_refl 1)
theorem aGroup (hI : InvD D i o C M) (x y z : Int32) : Agr cdMa (pX6_setGroup C x y z) (pX7_setGroup M x y z) := by
  have hI0 := hI
  obtain ⟨w, ⟨hi, ho⟩, hex, hC, hM⟩ := hI
  obtain ⟨n1, n2⟩ := w.n
  have h1 := hM.thr 0
  rcases feat w x with ⟨f, hf, rfl, f1, f2⟩ | ⟨f1, f2⟩
  · have f12 : f < 12 := by omega
    unfold pX6_setGroup pX7_setGroup pX6_setGroup_20 pX7_setGroup_28
    rw [tb_t (f1 C i o hC), bd_t (f2 M i o hM), bd_t (mT0 M 1), if_pos rfl]
    have no : Agr cdMa (some (.inl (2, C))) (pX7_setGroup_33 (sS M 7 0) (nI f) y z 1) := by
      unfold pX7_setGroup_33
      rw [bd_t (mT1 (sS M 7 0) 2), if_neg (show ¬ (1 : Int32) = 0 by decide)]
      exact ⟨_, _, _, rfl, (hI0.m (h1.thr 2)).inv, Or.inl ⟨2, rfl, by decide, sS_eq⟩⟩
    by_cases y0 : y < 0
    · rw [if_pos y0, if_pos y0]; exact no
    · rw [if_neg y0, if_neg y0]
      obtain ⟨lo, hlo, rfl⟩ := nI_of y0
      have isin : ∀ M : St, pX7_isIn M z (nI lo) 12 = some (if z < nI lo then 0 else if (12 : Int32) < z then 0 else 1) := fun M => by
        unfold pX7_isIn
        split
        · rfl
        · split <;> rfl
      rw [bd_t (isin _)]
      by_cases z1 : z < nI lo
      · rw [if_pos z1, if_pos z1, if_pos rfl]; exact no
      · rw [if_neg z1, if_neg z1]
        by_cases z2 : z ≤ 12
        · have z3 : ¬ (12 : Int32) < z := fun q => by have a := ilt.mp q; have b := ile.mp z2; omega
          rw [if_pos z2, if_neg z3, if_neg (show ¬ (1 : Int32) = 0 by decide)]
          have z0 : ¬ z < 0 := fun q => by
            have a := ilt.mp q
            have b : ¬ z.toInt < (nI lo).toInt := fun q => z1 (ilt.mpr q)
            rw [nI_toInt hlo] at b
            have e0 : (0 : Int32).toInt = 0 := by decide
            omega
          obtain ⟨up, hup, rfl⟩ := nI_of z0
          have hup12 : up ≤ 12 := (nI_leI (b := 12) hup (by decide)).mp z2
          have hlo12 : lo ≤ 12 := by
            have : ¬ up < lo := fun q => z1 ((nI_ltI hup hlo).mpr q)
            omega
          have h2 := h1.thr 0
          have g00 : grD D f lo up 0 = D 0 := gr_row (by decide) (by decide)
          have w' := gr_wf w hf hlo12 hup12
          have hi' : i < 2 ^ grD D f lo up 0 0 := by rw [g00]; exact hi
          have ho' : o < 2 ^ grD D f lo up 0 0 := by rw [g00]; exact ho
          have hC' := gr_RelC hC (f := f) (lo := lo) (hi := up)
          have hM' := gr_RelM h2 (f := f) (lo := lo) (hi := up)
          obtain ⟨c, c1, c2⟩ := cHasCmpl hC' w' hi' ho'
          obtain ⟨d, d1, d2⟩ := mNoneLeft hM' w' (p12 hi' (by rw [g00]; exact n2)) (p12 ho' (by rw [g00]; exact n2))
          have cd : d = !c := by
            cases c with
            | true => exact d2.mpr (c2.mp rfl)
            | false =>
              cases q : d with
              | true => rfl
              | false => exact absurd (c2.mpr (d2.mp q)) (by decide)
          have c2f : C.2 2 f = nI (D 2 f) := hC.lo f12
          have c3f : C.2 3 f = nI (D 3 f) := hC.hi hf
          have m2f : (sS (sS M 7 0) 7 0).2 2 f = nI (D 2 f) := h2.lo f12
          have m3f : (sS (sS M 7 0) 7 0).2 3 f = nI (D 3 f) := h2.hi hf
          unfold pX7_setGroup_33
          rw [bd_t (mT0 (sS M 7 0) 2), if_pos rfl]
          simp only [gd_ix f12, ltv, nI_clp (show f < 2 ^ 31 by omega), c2f, c3f, m2f, m3f]
          rw [bd_t c1, bd_t d1, cd, bd_t (mThr _ (!c) 3)]
          have kE : kidM (grD D f lo up) f = kidM D f := kidM_cong (gr_row (by decide) (by decide)) (by rw [g00]) f
          have nE : nk (grD D f lo up) f = nk D f := by
            unfold nk kid
            rw [g00, gr_row (x := 1) (by decide) (by decide)]
          cases c with
          | false =>
            rw [if_pos (show b2i false = 0 from rfl), if_neg (show ¬ b2i (!false) = 0 by decide)]
            have hR := gr_RelM (hM'.thr 3) (f := f) (lo := D 2 f) (hi := D 3 f)
            rw [gr_back] at hR
            have hQ := gr_RelC hC' (f := f) (lo := D 2 f) (hi := D 3 f)
            rw [gr_back] at hQ
            rw [show (sA (sA (sS (sA (sA (sS (sS M 7 0) 7 0) 2 f (nI lo)) 3 f (nI up)) 7 (if (!false) = true then 3 else 0)) 2 f (nI (D 2 f))) 3 f (nI (D 3 f))) = (sA (sA (sS (sA (sA (sS (sS M 7 0) 7 0) 2 f (nI lo)) 3 f (nI up)) 7 3) 2 f (nI (D 2 f))) 3 f (nI (D 3 f))) from rfl, mKidsLoop hR w f12]
            exact ⟨_, _, _, rfl, ⟨D, i, o, w, ⟨hi, ho⟩, hex, hQ, hR⟩, Or.inl ⟨4, rfl, by decide, show (sS (sA (sA (sS (sS M 7 0) 7 0) 2 f (nI lo)) 3 f (nI up)) 7 3).1 7 = 3 from sS_eq⟩⟩
          | true =>
            rw [if_neg (show ¬ b2i true = 0 by decide), if_pos (show b2i (!true) = 0 from rfl)]
            have hR := hM'.thr 0
            have ck : (sA (sA C 2 f (nI lo)) 3 f (nI up)).2 1 f = nI (kidM D f) := by
              rw [sA_ne (by decide), sA_ne (by decide)]; exact hC.k f12
            rw [ck, bd_t (bitCnt (kidM_lt D f)), nkE, show (sS (sA (sA (sS (sS M 7 0) 7 0) 2 f (nI lo)) 3 f (nI up)) 7 (if (!true) = true then 3 else 0)) = (sS (sA (sA (sS (sS M 7 0) 7 0) 2 f (nI lo)) 3 f (nI up)) 7 0) from rfl, mKidsLoop hR w' f12, nE]
            exact ⟨_, _, _, rfl, ⟨_, i, o, w', ⟨hi', ho'⟩, c2.mp rfl, hC', hR⟩, Or.inr ⟨rfl, sS_eq⟩⟩
        · have z3 : (12 : Int32) < z := ilt.mpr (by
            have : ¬ z.toInt ≤ (12 : Int32).toInt := fun q => z2 (ile.mpr q)
            omega)
          rw [if_neg z2, if_pos z3, if_pos rfl]; exact no
  · unfold pX6_setGroup pX7_setGroup
    rw [tb_e (f1 C i o hC), bd_t (f2 M i o hM), bd_t (mT1 M 1), if_neg (show ¬ (1 : Int32) = 0 by decide)]
    exact ⟨_, _, _, rfl, (hI0.m (hM.thr 1)).inv, Or.inl ⟨1, rfl, by decide, sS_eq⟩⟩
end Grp
