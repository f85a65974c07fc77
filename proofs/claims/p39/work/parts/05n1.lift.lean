section Lift
variable {D : Dt} {i o : Nat} {C M : St}
theorem un_row {x : Nat} (h : 1 ≤ x) : unD D x = D x := by
  funext y
  unfold unD
  rw [if_neg (by omega)]
theorem un_0 {y : Nat} (h : y ≠ 2) : unD D 0 y = D 0 y := by
  unfold unD
  rw [if_neg (by omega)]
theorem un_2 : unD D 0 2 = D 0 2 - 1 := by unfold unD; rw [if_pos ⟨rfl, rfl⟩]
def cdRL (k : Nat) : Nat := if k = 3 then 1 else 0
theorem aRemove (hI : InvD D i o C M) : Agr cdRL (pX6_removeLayer C) (pX7_removeLayer M) := by
  have hI0 := hI
  obtain ⟨w, ⟨hi, ho⟩, hex, hC, hM⟩ := hI
  have la := w.la
  unfold pX6_removeLayer pX7_removeLayer pX7_removeLayer_13
  rw [hC.la, hM.la]
  by_cases z : D 0 2 = 0
  · rw [if_neg (show ¬ (0 : Int32) < nI (D 0 2) by rw [z]; decide), if_pos (show nI (D 0 2) = 0 by rw [z]; rfl), bd_t (mT1 M 1), if_neg (show ¬ (1 : Int32) = 0 by decide)]
    exact ⟨_, _, _, rfl, (hI0.m (hM.thr 1)).inv, Or.inl ⟨3, rfl, by decide, sS_eq⟩⟩
  · rw [if_pos (show (0 : Int32) < nI (D 0 2) from nltI (a := 0) (by decide) (by omega) (by omega)), if_neg (fun q => z ((nI0 (by omega)).mp q)), bd_t (mT0 M 1), if_pos rfl]
    have e1 : nI (D 0 2) - 1 = nI (D 0 2 - 1) := pk_sub (b := 1) (by omega)
    have ml : (sS M 7 0).1 2 = nI (D 0 2) := (hM.thr 0).la
    simp only [ltv, ml, e1, show ∀ (T : St) (k : Nat) (v : Int32), (sS T k v).1 k = v from fun _ _ _ => sS_eq]
    have g00 : unD D 0 0 = D 0 0 := un_0 (by decide)
    have wf : WF (unD D) := by
      obtain ⟨⟨w1, w2, w3, w4⟩, w5, w6, w7, w8, w9, w10, w11⟩ := w
      refine ⟨⟨by rw [g00]; exact w1, by rw [g00]; exact w2, by rw [un_0 (by decide)]; exact w3, by rw [un_2]; omega⟩, ?_, ?_, ?_, ?_, ?_, ?_, ?_⟩
      · rw [g00, un_row (by decide)]; exact w5
      · rw [un_row (by decide), un_row (by decide), un_row (by decide)]; exact w6
      · rw [g00, un_row (by decide), un_row (by decide)]; exact w7
      · rw [g00, un_0 (by decide), un_row (by decide), un_row (by decide), un_row (by decide), un_row (by decide), un_row (by decide)]; exact w8
      · rw [g00, un_row (by decide)]; exact w9
      · rw [un_row (by decide)]; exact w10
      · rw [un_2, g00, un_row (by decide), un_row (by decide), un_row (by decide), un_row (by decide)]
        exact fun k hk => w11 k (by omega)
    have hC' : RelC (unD D) i o (sS C 6 (nI (D 0 2 - 1))) := by
      obtain ⟨⟨r1, r2, r3, r4, r5, r6, r7⟩, ⟨p1, p2, p3, p4, p5⟩, q1, q2, q3⟩ := hC
      have sc : ∀ x, x ≠ 6 → (sS C 6 (nI (D 0 2 - 1))).1 x = C.1 x := fun x hx => sS_ne hx
      refine ⟨⟨?_, ?_, ?_, ?_, ?_, ?_, ?_⟩, ⟨p1, ?_, ?_, ?_, ?_⟩, ?_, ?_, ?_⟩
      · rw [sc 0 (by decide)]; exact r1
      · rw [sc 1 (by decide)]; exact r2
      · rw [sc 2 (by decide), mandM_cong (un_row (by decide))]; exact r3
      · rw [sc 3 (by decide), g00]; exact r4
      · rw [sc 4 (by decide), forceM_cong (un_row (by decide)) (un_0 (by decide))]; exact r5
      · rw [sc 5 (by decide), un_0 (by decide)]; exact r6
      · rw [sS_eq, un_2]
      · rw [g00, un_row (by decide)]; exact p2
      · intro f hf
        rw [kidM_cong (un_row (by decide)) g00]; exact p3 f hf
      · rw [un_row (by decide)]; exact p4
      · rw [g00, un_row (by decide)]; exact p5
      · rw [un_0 (by decide)]
        intro r hr
        have e : wantM (unD D) r = wantM D r ∧ unwM (unD D) r = unwM D r ∧ lastM (unD D) r = lastM D r := by
          unfold wantM unwM lastM
          rw [un_row (x := 5) (by decide), un_row (x := 6) (by decide), un_row (x := 7) (by decide), un_row (x := 8) (by decide)]
          exact ⟨rfl, rfl, rfl⟩
        rw [e.1, e.2.1, e.2.2]; exact q1 r hr
      · rw [un_row (by decide)]; exact q2
      · rw [un_2, un_row (x := 11) (by decide), un_row (x := 14) (by decide)]
        intro k hk
        have e : detM (unD D) k = detM D k := by
          unfold detM
          rw [un_row (x := 11) (by decide), un_row (x := 12) (by decide), un_row (x := 13) (by decide)]
        rw [e]; exact q3 k (by omega)
    have hM' : RelM (unD D) i o (sS (sS M 7 0) 2 (nI (D 0 2 - 1))) := by
      obtain ⟨⟨r1, r2, r3, r4, r5⟩, ⟨p1, p2, p3, p4, p5, p6⟩, q1, q2⟩ := hM.thr 0
      refine ⟨⟨?_, ?_, ?_, ?_, ?_⟩, ⟨p1, ?_, ?_, ?_, ?_, ?_⟩, ?_, ?_⟩
      · rw [sS_ne (by decide), g00]; exact r1
      · rw [sS_ne (by decide), un_0 (by decide)]; exact r2
      · rw [sS_eq, un_2]
      · rw [sS_ne (by decide)]; exact r4
      · rw [sS_ne (by decide)]; exact r5
      · rw [g00, un_row (by decide)]; exact p2
      · rw [g00, un_row (by decide)]; exact p3
      · rw [un_row (by decide)]; exact p4
      · rw [g00, un_row (by decide)]; exact p5
      · rw [un_row (by decide)]; exact p6
      · rw [un_0 (by decide), un_row (x := 9) (by decide), un_row (x := 5) (by decide), un_row (x := 6) (by decide), un_row (x := 7) (by decide), un_row (x := 8) (by decide)]
        exact q1
      · rw [un_2, un_row (x := 11) (by decide), un_row (x := 12) (by decide), un_row (x := 13) (by decide), un_row (x := 14) (by decide)]
        exact fun k hk => q2 k (by omega)
    obtain ⟨S, s1, s2⟩ := hex
    have hg : ∀ S, good (unD D) S = good D S := fun S => good_cong g00 (un_0 (by decide)) (fun x h1 _ => un_row h1) S
    refine ⟨_, _, _, rfl, ⟨unD D, i, o, wf, ⟨by rw [g00]; exact hi, by rw [g00]; exact ho⟩, ⟨S, by rw [g00]; exact s1, by rw [cmpl_cong hg]; exact s2⟩, hC', hM'⟩, Or.inr ⟨rfl, ?_⟩⟩
    rw [sS_ne (by decide)]; exact sS_eq
/-- a rule lifted -/
def lfD (D : Dt) (r : Nat) : Dt := fun x y => if x = 9 ∧ y = r then 1 else D x y
theorem lf_row {r x : Nat} (h : x ≠ 9) : lfD D r x = D x := by
  funext y
  unfold lfD
  rw [if_neg (by omega)]
theorem lf_9 {r y : Nat} : lfD D r 9 y = if y = r then 1 else D 9 y := by
  unfold lfD
  by_cases h : y = r
  · rw [if_pos ⟨rfl, h⟩, if_pos h]
  · rw [if_neg (fun q => h q.2), if_neg h]
theorem lf_force (w : WF D) {r : Nat} (hr : r < D 0 1) : forceM (lfD D r) = adn (forceM D) (2 ^ r) := by
  refine Nat.eq_of_testBit_eq fun j => ?_
  unfold forceM
  rw [mkb_tb, adn_tb, mkb_tb, tb_pow, lf_row (by decide), lf_9]
  by_cases h : j = r
  · rw [if_pos h, decide_eq_true h.symm]; simp
  · rw [if_neg h, decide_eq_false (show ¬ r = j by omega)]; simp
theorem lf_good {r S : Nat} (h : good D S = true) : good (lfD D r) S = true := by
  unfold good treeOk rulesOk okAt kids kid rok at h ⊢
  rw [lf_row (x := 0) (by decide), lf_row (x := 1) (by decide), lf_row (x := 2) (by decide), lf_row (x := 3) (by decide), lf_row (x := 4) (by decide), lf_row (x := 5) (by decide), lf_row (x := 6) (by decide), lf_row (x := 7) (by decide), lf_row (x := 8) (by decide)]
  rw [Bool.and_eq_true] at h ⊢
  refine ⟨h.1, allb_iff.mpr fun k hk => ?_⟩
  have := allb_iff.mp h.2 k hk
  rw [lf_9]
  by_cases q : k = r
  · rw [if_pos q]; rfl
  · rw [if_neg q]; exact this
def cdLi (k : Nat) : Nat := if k = 5 then 1 else if k = 3 then 2 else 0
theorem aLift (hI : InvD D i o C M) (x : Int32) : Agr cdLi (pX6_lift C x) (pX7_lift M x) := by
  have hI0 := hI
  obtain ⟨w, ⟨hi, ho⟩, hex, hC, hM⟩ := hI
  obtain ⟨n1, n2⟩ := w.n
  have r20 := w.r
  have no : ∀ b, pX7_isIn M x 0 (nI (D 0 1) - 1) = some 0 → pX7_lift M x = b → Agr cdLi (some (.inl (5, C))) b := fun b h1 hb => by
    unfold pX7_lift pX7_lift_20 at hb
    rw [hM.r, bd_t h1, if_pos rfl, bd_t (mT1 M 1), if_neg (show ¬ (1 : Int32) = 0 by decide)] at hb
    subst hb
    exact ⟨_, _, _, rfl, (hI0.m (hM.thr 1)).inv, Or.inl ⟨5, rfl, by decide, sS_eq⟩⟩
  have sub1 : (nI (D 0 1) - 1).toInt = (D 0 1 : Int) - 1 := pk_sub_toInt (b := 1) (by omega) (by decide)
  rcases pk_ix x (show D 0 1 < 2 ^ 31 by omega) with h | h | ⟨r, hr, rfl⟩
  · have e : pX6_lift C x = some (.inl (5, C)) := by
      unfold pX6_lift pX6_lift_15
      rw [if_pos h]
    rw [e]
    exact no _ (by unfold pX7_isIn; rw [if_pos h]) rfl
  · have hh := ile.mp h
    rw [nI_toInt (by omega)] at hh
    have h0 : ¬ x < 0 := fun q => by
      have a := ilt.mp q
      have e0 : (0 : Int32).toInt = 0 := by decide
      omega
    have e : pX6_lift C x = some (.inl (5, C)) := by
      unfold pX6_lift pX6_lift_15
      rw [if_neg h0, hC.r, if_neg (fun q => by
        have a := ilt.mp q
        rw [nI_toInt (by omega)] at a; omega)]
    rw [e]
    exact no _ (by
      unfold pX7_isIn
      rw [if_neg h0, if_pos (ilt.mpr (by rw [sub1]; omega))]) rfl
  · have e1 : nI (D 0 1) - 1 = nI (D 0 1 - 1) := pk_sub (b := 1) (by omega)
    have hin : pX7_isIn M (nI r) 0 (nI (D 0 1 - 1)) = some 1 := by
      have := mIsIn M (n := r) (lo := 0) (hi := D 0 1 - 1) (by omega) (by decide) (by omega)
      rw [decide_eq_true (Nat.zero_le r), decide_eq_true (show r ≤ D 0 1 - 1 by omega)] at this
      exact this
    have h1 := hM.thr 0
    have hl := (w.ru hr).2.2.2.2.1
    have e5 : (sS M 7 0).2 5 r = nI (D 9 r) := (h1.ru hr).1
    have f31 := p31 (forceM_lt D) (show D 0 1 ≤ 30 by omega)
    unfold pX6_lift pX7_lift pX7_lift_20
    rw [if_neg (nI_pos (by omega)), hC.r, if_pos (nltI (by omega) (by omega) hr), hC.fo, bd_t (cHas C f31 (by omega)), hM.r, e1, bd_t hin, if_neg (show ¬ (1 : Int32) = 0 by decide), bd_t (mT0 M 1), if_pos rfl]
    simp only [gd_ix (show r < 20 by omega), nI_clp (show r < 2 ^ 31 by omega), e5]
    by_cases z : D 9 r = 1
    · have hf : (forceM D).testBit r = false := by
        cases q : (forceM D).testBit r with
        | false => rfl
        | true => exact absurd z ((forceM_tb w hr).mp q)
      rw [hf, if_pos (show b2i false = 0 from rfl), z, bd_t (show pX7_isThrown (sS M 7 0) (nI 1) 2 = _ from mT1 _ 2), if_neg (show ¬ (1 : Int32) = 0 by decide)]
      exact ⟨_, _, _, rfl, (hI0.m (h1.thr 2)).inv, Or.inl ⟨3, rfl, by decide, sS_eq⟩⟩
    · have z0 : D 9 r = 0 := by omega
      have hf : (forceM D).testBit r = true := (forceM_tb w hr).mpr z
      rw [hf, if_neg (show ¬ b2i true = 0 by decide), z0, bd_t (show pX7_isThrown (sS M 7 0) (nI 0) 2 = _ from mT0 _ 2), if_pos rfl]
      have h2 := h1.thr 0
      have hfl := forceM_lt D
      have hf20 : adn (forceM D) (2 ^ r) < 2 ^ 20 := Nat.lt_of_lt_of_le (adn_lt hfl) (Nat.pow_le_pow_right (by decide) r20)
      simp only [ltv, show vp_nar .boolean (1 : Int32) = 1 by decide, nI_sh r (show r < 31 by omega), nI_adn, show ∀ (v : Int32), (sS C 4 v).1 4 = v from fun _ => sS_eq, bd_t (bc20 hf20)]
      have g00 : lfD D r 0 = D 0 := lf_row (by decide)
      have hC' : RelC (lfD D r) i o (sS C 4 (nI (adn (forceM D) (2 ^ r)))) := by
        obtain ⟨⟨r1, r2, r3, r4, r5, r6, r7⟩, ⟨p1, p2, p3, p4, p5⟩, q1, q2, q3⟩ := hC
        have sc : ∀ x, x ≠ 4 → (sS C 4 (nI (adn (forceM D) (2 ^ r)))).1 x = C.1 x := fun x hx => sS_ne hx
        refine ⟨⟨?_, ?_, ?_, ?_, ?_, ?_, ?_⟩, ⟨p1, ?_, ?_, ?_, ?_⟩, ?_, ?_, ?_⟩
        · rw [sc 0 (by decide)]; exact r1
        · rw [sc 1 (by decide)]; exact r2
        · rw [sc 2 (by decide), mandM_cong (lf_row (by decide))]; exact r3
        · rw [sc 3 (by decide), g00]; exact r4
        · rw [sS_eq, lf_force w hr]
        · rw [sc 5 (by decide), g00]; exact r6
        · rw [sc 6 (by decide), g00]; exact r7
        · rw [g00, lf_row (x := 1) (by decide)]; exact p2
        · intro f hf
          rw [kidM_cong (lf_row (by decide)) (by rw [g00])]; exact p3 f hf
        · rw [lf_row (x := 2) (by decide)]; exact p4
        · rw [g00, lf_row (x := 3) (by decide)]; exact p5
        · rw [g00]
          intro k hk
          have e : wantM (lfD D r) k = wantM D k ∧ unwM (lfD D r) k = unwM D k ∧ lastM (lfD D r) k = lastM D k := by
            unfold wantM unwM lastM
            rw [lf_row (x := 5) (by decide), lf_row (x := 6) (by decide), lf_row (x := 7) (by decide), lf_row (x := 8) (by decide)]
            exact ⟨rfl, rfl, rfl⟩
          rw [e.1, e.2.1, e.2.2]; exact q1 k hk
        · rw [lf_row (x := 10) (by decide)]; exact q2
        · rw [g00, lf_row (x := 11) (by decide), lf_row (x := 14) (by decide)]
          intro k hk
          have e : detM (lfD D r) k = detM D k := by
            unfold detM
            rw [lf_row (x := 11) (by decide), lf_row (x := 12) (by decide), lf_row (x := 13) (by decide)]
          rw [e]; exact q3 k hk
      have hM' : RelM (lfD D r) i o (sA (sS (sS M 7 0) 7 0) 5 r 1) := by
        obtain ⟨⟨r1, r2, r3, r4, r5⟩, ⟨p1, p2, p3, p4, p5, p6⟩, q1, q2⟩ := h2
        have row : ∀ x, x ≠ 5 → (sA (sS (sS M 7 0) 7 0) 5 r 1).2 x = (sS (sS M 7 0) 7 0).2 x := fun x hx => sA_ne hx
        refine ⟨⟨?_, ?_, ?_, r4, r5⟩, ⟨?_, ?_, ?_, ?_, ?_, ?_⟩, ?_, ?_⟩
        · rw [g00]; exact r1
        · rw [g00]; exact r2
        · rw [g00]; exact r3
        · rw [row 0 (by decide)]; exact p1
        · rw [row 0 (by decide), g00, lf_row (x := 1) (by decide)]; exact p2
        · rw [row 1 (by decide), g00, lf_row (x := 10) (by decide)]; exact p3
        · rw [row 2 (by decide), lf_row (x := 2) (by decide)]; exact p4
        · rw [row 3 (by decide), g00, lf_row (x := 3) (by decide)]; exact p5
        · rw [row 4 (by decide), lf_row (x := 4) (by decide)]; exact p6
        · rw [row 6 (by decide), row 9 (by decide), row 10 (by decide), row 11 (by decide), g00, lf_row (x := 5) (by decide), lf_row (x := 6) (by decide), lf_row (x := 7) (by decide), lf_row (x := 8) (by decide)]
          intro k hk
          obtain ⟨a1, a2⟩ := q1 k hk
          refine ⟨?_, a2⟩
          rw [sA_eq, lf_9]
          by_cases y : k = r
          · rw [if_pos y, y]; exact if_pos rfl
          · rw [if_neg y, ← a1]; exact if_neg y
        · rw [row 7 (by decide), row 12 (by decide), row 13 (by decide), row 14 (by decide), g00, lf_row (x := 11) (by decide), lf_row (x := 12) (by decide), lf_row (x := 13) (by decide), lf_row (x := 14) (by decide)]
          exact q2
      have t7 : (sA (sS (sS M 7 0) 7 0) 5 r 1).1 7 = 0 := show (sS (sS M 7 0) 7 0).1 7 = 0 from sS_eq
      generalize sA (sS (sS M 7 0) 7 0) 5 r 1 = N at hM' t7 ⊢
      have r01 : lfD D r 0 1 = D 0 1 := by rw [g00]
      have cnt : pX7_lift_54 FU N 0 0 = some (nI (ct (fun k => decide (lfD D r 9 k = 0)) (D 0 1)), N) := by
        refine loopF (F := fun F k => pX7_lift_54 F N (nI (ct (fun k => decide (lfD D r 9 k = 0)) k)) (nI k)) (m := D 0 1) (fun F => ?_) (fun F k hk => Or.inl ?_) FU 0 (Nat.zero_le _) (by unfold FU; omega)
        · show pX7_lift_54_b (pX7_lift_54 F) N _ (nI (D 0 1)) = _
          unfold pX7_lift_54_b
          rw [hM'.r, r01, if_pos (nleI (by omega) (by omega) (Nat.le_refl _))]
        · show pX7_lift_54_b (pX7_lift_54 F) N _ (nI k) = pX7_lift_54 F N _ (nI (k + 1))
          have hk9 : lfD D r 9 k ≤ 1 := by
            rw [lf_9]
            have := (w.ru hk).2.2.2.2.1
            split <;> omega
          unfold pX7_lift_54_b pX7_lift_77
          have A0 : ∀ n, nI n + 0 = nI (n + 0) := fun n => Int32.add_zero _
          rw [hM'.r, r01, if_neg (nleN (by omega) (by omega) hk), ct_s]
          simp only [ltv, gd_ix (show k < 20 by omega), nI_clp (show k < 2 ^ 31 by omega), (hM'.ru (show k < lfD D r 0 1 by rw [r01]; exact hk)).1, nI0 (show lfD D r 9 k < 2 ^ 31 by omega), nI_1, A0]
          by_cases y : lfD D r 9 k = 0
          · rw [if_pos y, decide_eq_true y]; rfl
          · rw [if_neg y, decide_eq_false y]; rfl
      rw [cnt]
      have ce : ct (fun i => (adn (forceM D) (2 ^ r)).testBit i) 24 = ct (fun k => decide (lfD D r 9 k = 0)) (D 0 1) := by
        rw [← lf_force w hr]
        have : ∀ k, (forceM (lfD D r)).testBit k = (decide (k < D 0 1) && decide (lfD D r 9 k = 0)) := fun k => by
          unfold forceM; rw [mkb_tb, r01]
        rw [ct_ext (m := D 0 1) (by omega) (fun k a _ => by rw [this, decide_eq_false (by omega)]; rfl)]
        exact ct_cong fun k hk => by rw [this, decide_eq_true hk, Bool.true_and]
      rw [ce]
      have wf : WF (lfD D r) := by
        obtain ⟨w1, w5, w6, w7, w8, w9, w10, w11⟩ := w
        refine ⟨by rw [g00]; exact w1, ?_, ?_, ?_, ?_, ?_, ?_, ?_⟩
        · rw [g00, lf_row (x := 1) (by decide)]; exact w5
        · rw [lf_row (x := 2) (by decide), lf_row (x := 3) (by decide), lf_row (x := 4) (by decide)]; exact w6
        · rw [g00, lf_row (x := 2) (by decide), lf_row (x := 4) (by decide)]; exact w7
        · rw [g00, lf_row (x := 5) (by decide), lf_row (x := 6) (by decide), lf_row (x := 7) (by decide), lf_row (x := 8) (by decide)]
          intro k hk
          obtain ⟨a1, a2, a3, a4, a5, a6⟩ := w8 k hk
          refine ⟨a1, a2, a3, a4, ?_, a6⟩
          rw [lf_9]
          split
          · decide
          · exact a5
        · rw [g00, lf_row (x := 10) (by decide)]; exact w9
        · rw [lf_row (x := 10) (by decide)]; exact w10
        · rw [g00, lf_row (x := 11) (by decide), lf_row (x := 12) (by decide), lf_row (x := 13) (by decide), lf_row (x := 14) (by decide)]; exact w11
      obtain ⟨S, s1, s2⟩ := hex
      refine ⟨_, _, _, rfl, ⟨lfD D r, i, o, wf, ⟨by rw [g00]; exact hi, by rw [g00]; exact ho⟩, ⟨S, by rw [g00]; exact s1, ?_⟩, hC', hM'⟩, Or.inr ⟨rfl, t7⟩⟩
      obtain ⟨a1, a2, a3⟩ := cmpl_iff.mp s2
      exact cmpl_iff.mpr ⟨a1, a2, lf_good a3⟩
end Lift
