/-! ===== p39: lifting, deciding, retracting ===== -/
section LLift
variable {D : Dt} {i o : Nat} {C : St} {T : SC}
theorem oLiftNo (w : WF D) (hC : RelC D i o C) {r : Nat} (hr : D 0 1 ≤ r) (hb : r < 2 ^ 31) : pX6_lift C (nI r) = some (.inl (5, C)) := by
  have r20 := w.r
  unfold pX6_lift pX6_lift_15
  rw [if_neg (nI_pos hb), hC.r, if_neg (nltN hb (by omega) hr)]
theorem oLiftNeg : pX6_lift C (-1) = some (.inl (5, C)) := by
  unfold pX6_lift pX6_lift_15
  rw [if_pos (show (-1 : Int32) < 0 by decide)]
theorem oLift (hI : InvC D i o C) {r : Nat} (hr : r < D 0 1) : (D 9 r = 1 ∧ pX6_lift C (nI r) = some (.inl (3, C))) ∨ (D 9 r = 0 ∧ ∃ C', pX6_lift C (nI r) = some (.inr (nI (ct (fun k => decide (lfD D r 9 k = 0)) (D 0 1)), C')) ∧ InvC (lfD D r) i o C') := by
  obtain ⟨w, ⟨hi, ho⟩, hex, hC⟩ := hI
  have r20 := w.r
  have hl := (w.ru hr).2.2.2.2.1
  have f31 := p31 (forceM_lt D) (show D 0 1 ≤ 30 by omega)
  unfold pX6_lift
  rw [if_neg (nI_pos (by omega)), hC.r, if_pos (nltI (by omega) (by omega) hr), hC.fo, bd_t (cHas C f31 (by omega))]
  by_cases z : D 9 r = 1
  · left
    have hf : (forceM D).testBit r = false := by
      cases q : (forceM D).testBit r with
      | false => rfl
      | true => exact absurd z ((forceM_tb w hr).mp q)
    rw [hf, if_pos (show b2i false = 0 from rfl)]
    exact ⟨z, rfl⟩
  · right
    have z0 : D 9 r = 0 := by omega
    have hf : (forceM D).testBit r = true := (forceM_tb w hr).mpr z
    have hfl := forceM_lt D
    have hf20 : adn (forceM D) (2 ^ r) < 2 ^ 20 := Nat.lt_of_lt_of_le (adn_lt hfl) (Nat.pow_le_pow_right (by decide) r20)
    rw [hf, if_neg (show ¬ b2i true = 0 by decide)]
    simp only [ltv, nI_sh r (show r < 31 by omega), nI_adn, show ∀ (v : Int32), (sS C 4 v).1 4 = v from fun _ => sS_eq]
    rw [bd_t (bc20 hf20)]
    have g00 : lfD D r 0 = D 0 := lf_row (by decide)
    have hcE : ct (fun i => (adn (forceM D) (2 ^ r)).testBit i) 24 = ct (fun k => decide (lfD D r 9 k = 0)) (D 0 1) := by
      rw [← lf_force w hr]
      have r01 : lfD D r 0 1 = D 0 1 := by rw [g00]
      have this : ∀ k, (forceM (lfD D r)).testBit k = (decide (k < D 0 1) && decide (lfD D r 9 k = 0)) := fun k => by
        unfold forceM; rw [mkb_tb, r01]
      rw [ct_ext (m := D 0 1) (by omega) (fun k a _ => by rw [this, decide_eq_false (by omega)]; rfl)]
      exact ct_cong fun k hk => by rw [this, decide_eq_true hk, Bool.true_and]
    rw [hcE]
    have hC' : RelC (lfD D r) i o (sS C 4 (nI (adn (forceM D) (2 ^ r)))) := by
      obtain ⟨⟨r1, r2, r3, r4, r5, r6, r7⟩, ⟨p1, p2, p3, p4, p5⟩, q1, q2, q3⟩ := hC
      have sc : ∀ x, x ≠ 4 → (sS C 4 (nI (adn (forceM D) (2 ^ r)))).1 x = C.1 x := fun x hx => sS_ne hx
      refine ⟨⟨?_, ?_, ?_, ?_, ?_, ?_, ?_⟩, ⟨p1, ?_, ?_, ?_, ?_⟩, ?_, ?_, ?_⟩
      · rw [sc 0 (by decide)]; exact r1
      · rw [sc 1 (by decide)]; exact r2
      · rw [sc 2 (by decide), mandM_cong (lf_row (by decide))]; exact r3
      · rw [sc 3 (by decide), g00]; exact r4
      · rw [sS_eq, lf_force w hr]
      · rw [sc 5 (by decide), g00]; exact r6
      · rw [sc 6 (by decide), g00]; exact r7
      · rw [g00, lf_row (x := 1) (by decide)]; exact p2
      · intro f hf
        rw [kidM_cong (lf_row (by decide)) (by rw [g00])]; exact p3 f hf
      · rw [lf_row (x := 2) (by decide)]; exact p4
      · rw [g00, lf_row (x := 3) (by decide)]; exact p5
      · rw [g00]
        intro k hk
        have e : wantM (lfD D r) k = wantM D k ∧ unwM (lfD D r) k = unwM D k ∧ lastM (lfD D r) k = lastM D k := by
          unfold wantM unwM lastM
          rw [lf_row (x := 5) (by decide), lf_row (x := 6) (by decide), lf_row (x := 7) (by decide), lf_row (x := 8) (by decide)]
          exact ⟨rfl, rfl, rfl⟩
        rw [e.1, e.2.1, e.2.2]; exact q1 k hk
      · rw [lf_row (x := 10) (by decide)]; exact q2
      · rw [g00, lf_row (x := 11) (by decide), lf_row (x := 14) (by decide)]
        intro k hk
        have e : detM (lfD D r) k = detM D k := by
          unfold detM
          rw [lf_row (x := 11) (by decide), lf_row (x := 12) (by decide), lf_row (x := 13) (by decide)]
        rw [e]; exact q3 k hk
    have wf : WF (lfD D r) := by
      obtain ⟨w1, w5, w6, w7, w8, w9, w10, w11⟩ := w
      refine ⟨by rw [g00]; exact w1, ?_, ?_, ?_, ?_, ?_, ?_, ?_⟩
      · rw [g00, lf_row (x := 1) (by decide)]; exact w5
      · rw [lf_row (x := 2) (by decide), lf_row (x := 3) (by decide), lf_row (x := 4) (by decide)]; exact w6
      · rw [g00, lf_row (x := 2) (by decide), lf_row (x := 4) (by decide)]; exact w7
      · rw [g00, lf_row (x := 5) (by decide), lf_row (x := 6) (by decide), lf_row (x := 7) (by decide), lf_row (x := 8) (by decide)]
        intro k hk
        obtain ⟨a1, a2, a3, a4, a5, a6⟩ := w8 k hk
        refine ⟨a1, a2, a3, a4, ?_, a6⟩
        rw [lf_9]
        split
        · decide
        · exact a5
      · rw [g00, lf_row (x := 10) (by decide)]; exact w9
      · rw [lf_row (x := 10) (by decide)]; exact w10
      · rw [g00, lf_row (x := 11) (by decide), lf_row (x := 12) (by decide), lf_row (x := 13) (by decide), lf_row (x := 14) (by decide)]; exact w11
    obtain ⟨S, s1, s2⟩ := hex
    obtain ⟨a1, a2, a3⟩ := cmpl_iff.mp s2
    exact ⟨z0, _, rfl, wf, ⟨by rw [g00]; exact hi, by rw [g00]; exact ho⟩, ⟨S, by rw [g00]; exact s1, cmpl_iff.mpr ⟨a1, a2, lf_good a3⟩⟩, hC'⟩
theorem l61 (w : WF D) (hN : NetR D i o (C.2 14)) {x2 : Int32} : pL_isLifted_61 FU C x2 0 0 = bd (pL_lift C x2) (fun u => if u.1 = nI (ct (fun k => decide (D 9 k = 0)) (D 0 1)) then some (1, mg u.2 C) else some (0, mg u.2 C)) := by
  have r20 := w.r
  have e1 : C.2 14 1 = nI (D 0 1) := hN.1.2.1
  refine loopF (F := fun N k => pL_isLifted_61 N C x2 (nI (ct (fun k => decide (D 9 k = 0)) k)) (nI k)) (m := D 0 1) (fun N => ?_) (fun N k hk => Or.inl ?_) FU 0 (Nat.zero_le _) (by unfold FU; omega)
  · show pL_isLifted_61_b (pL_isLifted_61 N) C x2 (nI (ct (fun k => decide (D 9 k = 0)) (D 0 1))) (nI (D 0 1)) = _
    unfold pL_isLifted_61_b
    rw [gx1, z1c, e1, if_pos (nleI (by omega) (by omega) (Nat.le_refl _))]
    rfl
  · show pL_isLifted_61_b (pL_isLifted_61 N) C x2 (nI (ct (fun k => decide (D 9 k = 0)) k)) (nI k) = pL_isLifted_61 N C x2 (nI (ct (fun k => decide (D 9 k = 0)) (k + 1))) (nI (k + 1))
    have h9 := (w.ru hk).2.2.2.2.1
    have e4 : C.2 14 (114 + 5 * k) = nI (D 9 k) := by
      rw [show 114 + 5 * k = 110 + 5 * k + 4 by omega]
      exact (hN.2.2.1 k hk).2.2.2.2
    unfold pL_isLifted_61_b
    rw [gx1, z1c, e1, if_neg (nleN (by omega) (by omega) hk), a114, gd_ix (show 114 + 5 * k < 250 by omega), nI_clp (show 114 + 5 * k < 2 ^ 31 by omega), e4, ct_s]
    simp only [ltv, p1c]
    have : D 9 k = 0 ∨ D 9 k = 1 := by omega
    rcases this with q | q
    · rw [q, show (1 : Int32) - nI 0 = nI 1 by decide, nI_add, decide_eq_true (show (0 : Nat) = 0 from rfl), if_pos (show true = true from rfl)]
    · rw [q, show (1 : Int32) - nI 1 = nI 0 by decide, nI_add, decide_eq_false (show ¬ (1 : Nat) = 0 by decide), if_neg (show ¬ false = true by decide)]
theorem lLift (hJ : JN D i o C) {r : Nat} (hr : r ≤ D 0 1) : ∃ C', pL_isLifted C (nI r) = some (1, C') ∧ JX (D 0 0) C' := by
  obtain ⟨hI, hN, h8⟩ := hJ
  have w := hI.1
  have r20 := w.r
  have e1 : C.2 14 1 = nI (D 0 1) := hN.1.2.1
  unfold pL_isLifted
  rw [gx1, z1c, e1]
  by_cases h1 : D 0 1 ≤ r
  · rw [if_pos (nleI (by omega) (by omega) h1)]
    unfold pL_isLifted_19 pL_isLifted_38
    rw [bd_t (show pL_lift C (nI r) = some (-900001, C) from wW_e (oLiftNo w hI.2.2.2 h1 (by omega)) (by decide))]
    simp only [ltv, gx1, z1c, mg14, e1]
    rw [if_neg (nltN (by omega) (by omega) h1), if_pos trivial]
    exact ⟨_, rfl, JN.back hI hN h8 (Nat.le_refl _)⟩
  · have hlt : r < D 0 1 := by omega
    have e4 : C.2 14 (114 + 5 * r) = nI (D 9 r) := by
      rw [show 114 + 5 * r = 110 + 5 * r + 4 by omega]
      exact (hN.2.2.1 r hlt).2.2.2.2
    rw [if_neg (nleN (by omega) (by omega) hlt), a114, gd_ix (show 114 + 5 * r < 250 by omega), gd_ix (show 114 + 5 * r < 250 by omega), nI_clp (show 114 + 5 * r < 2 ^ 31 by omega), e4]
    rcases oLift hI hlt with ⟨z, c1⟩ | ⟨z, _⟩
    · rw [if_pos (show nI (D 9 r) = 1 by rw [z]; rfl)]
      unfold pL_isLifted_19 pL_isLifted_38
      rw [bd_t (show pL_lift C (nI r) = some (-900002, C) from wW_e c1 (by decide))]
      simp only [ltv, gx1, z1c, mg14, e1]
      rw [if_pos (nltI (by omega) (by omega) hlt), if_pos trivial]
      exact ⟨_, rfl, JN.back hI hN h8 (Nat.le_refl _)⟩
    · rw [if_neg (show ¬ nI (D 9 r) = 1 by rw [z]; decide)]
      simp only [ltv]
      have hA : Alk (sA C 14 (114 + 5 * r) 1) C := Alk.rf.a14
      have g00 : lfD D r 0 = D 0 := lf_row (by decide)
      have hL : NetR (lfD D r) i o ((sA C 14 (114 + 5 * r) 1).2 14) := hN.lif w hlt
      rcases oLift (hI.alk hA) hlt with ⟨z1, _⟩ | ⟨_, C', c1, c2⟩
      · omega
      · rw [l61 c2.1 hL, g00, bd_t (show pL_lift _ (nI r) = some (nI (ct (fun k => decide (lfD D r 9 k = 0)) (D 0 1)), C') from wW_r c1), if_pos rfl]
        exact ⟨_, rfl, JN.back c2 hL (by rw [g00]; exact h8) (Nat.le_of_eq (by rw [g00]))⟩
/-! deciding -/
def pDe (b : Bool) (C : St) (f : Nat) : Option ((Nat × St) ⊕ (Int32 × St)) := if b then pX6_choose C (nI f) else pX6_refuse C (nI f)
theorem l87 {b : Bool} {f : Nat} {x5 : Int32} : pL_isDecided_87 C (nI f) (b2i b) x5 = bd (wresW (pDe b C f) cdRu (fun r => r)) (fun u => pL_isDecided_104 (mg u.2 C) x5 u.1) := by
  unfold pL_isDecided_87 pDe
  cases b <;> rfl
def dI (b : Bool) (i f : Nat) : Nat := if b then i ||| 2 ^ f else i
def dO (b : Bool) (o f : Nat) : Nat := if b then o else o ||| 2 ^ f
theorem oDe (hI : InvC D i o C) (b : Bool) {f : Nat} (hf : f < D 0 0) (z : f ≠ 0) (y : (i ||| o).testBit f = false) : (∃ C' K, pDe b C f = some (.inr (unV D K, C')) ∧ Fin D (K0 (dI b i f) (dO b o f)) K ∧ InvC D (dI b i f) (dO b o f) C') ∨ (¬ Pos D (dI b i f) (dO b o f) ∧ pDe b C f = some (.inl (4, C))) := by
  cases b with
  | true => exact oChoose hI hf z y
  | false => exact oRefuse hI hf z y
theorem l104 (hI : InvC D i o C) {x5 : Int32} (h5 : 0 ≤ x5) {K : Kn} (hK : Fin D (K0 i o) K) (hN : NetR D i o (C.2 14)) (h8 : D 0 0 ≤ 8) : ∃ C', pL_isDecided_104 C x5 (unV D K) = some (1, C') ∧ JX (D 0 0) C' := by
  obtain ⟨C', K', c1, c2, c3⟩ := oUnknown hI
  have e := Fin_uniq hK c2
  subst e
  unfold pL_isDecided_104
  rw [if_pos h5, bd_t c1]
  simp only [ltv]
  rw [if_pos trivial]
  exact ⟨_, rfl, JN.back c3 hN h8 (Nat.le_refl _)⟩
theorem l104n {x5 : Int32} (h5 : ¬ 0 ≤ x5) : pL_isDecided_104 C x5 x5 = some (1, C) := by
  unfold pL_isDecided_104
  rw [if_neg h5, if_pos rfl]
theorem lDec (hJ : JN D i o C) {f : Nat} (hf : f < D 0 0) (b : Bool) : ∃ C', pL_isDecided C (nI f) (b2i b) = some (1, C') ∧ JX (D 0 0) C' := by
  obtain ⟨hI, hN, h8⟩ := hJ
  have hI0 := hI
  obtain ⟨w, ⟨hi, ho⟩, hex, hC⟩ := hI
  have n2 := w.n.2
  have q31 : ∀ {x : Nat}, x < 2 ^ D 0 0 → x < 2 ^ 31 := fun hx => Nat.lt_of_lt_of_le (p12 hx n2) (by decide)
  have hpf : 2 ^ f < 2 ^ D 0 0 := Nat.pow_lt_pow_right (by decide) hf
  obtain ⟨e0, e1, e3, e4⟩ := hN.1
  -- the copy, with the decision in it
  have hX : ∃ X, pL_isDecided C (nI f) (b2i b) = (if nI f = 0 then pL_isDecided_66 X (nI f) (b2i b) (-900002) else bd (pL_isIn (nI (i ||| o)) (nI f)) (fun r_3 => if r_3 = 0 then bd (pL_isPossible (nx X)) (fun r_4 => if r_4 = 0 then pL_isDecided_66 X (nI f) (b2i b) (-900004) else pL_isDecided_66 X (nI f) (b2i b) 0) else pL_isDecided_66 X (nI f) (b2i b) (-900003))) ∧ Alk X C ∧ X.2 14 = C.2 14 ∧ NetR D (dI b i f) (dO b o f) (X.2 15) := by
    unfold pL_isDecided pL_isDecided_17
    cases b with
    | true =>
      refine ⟨sA (cp C) 15 3 (nI (i ||| 2 ^ f)), ?_, Alk.rf.cp.a15, rfl, hN.setI _⟩
      simp only [ltv, gx3, gx4, z3c, z4c, cp15, s15_14, cp14, e3, e4, nI_sh f (show f < 31 by omega), nI_lor]
      rw [if_neg (show ¬ b2i true = 0 by decide)]
    | false =>
      refine ⟨sA (cp C) 15 4 (nI (o ||| 2 ^ f)), ?_, Alk.rf.cp.a15, rfl, hN.setO _⟩
      simp only [ltv, gx3, gx4, z3c, z4c, cp15, s15_14, cp14, e3, e4, nI_sh f (show f < 31 by omega), nI_lor]
      rw [if_pos (show b2i false = 0 from rfl)]
  obtain ⟨X, hXe, hA, x14, x15⟩ := hX
  rw [hXe]
  have hIX := hI0.alk hA
  have hNX : NetR D i o (X.2 14) := by rw [x14]; exact hN
  have no : ∀ (x5 : Int32) (k : Nat), ¬ x5 = 0 → ¬ 0 ≤ x5 → cdRu k = x5 → pDe b X f = some (.inl (k, X)) → ∃ C', pL_isDecided_66 X (nI f) (b2i b) x5 = some (1, C') ∧ JX (D 0 0) C' := fun x5 k h1 h2 h3 h4 => by
    unfold pL_isDecided_66
    rw [if_neg h1, l87, bd_t (wW_e h4 (by rw [h3]; exact h1)), h3]
    show ∃ C', pL_isDecided_104 (mg X X) x5 x5 = some (1, C') ∧ JX (D 0 0) C'
    rw [l104n h2]
    exact ⟨_, rfl, JN.back hIX hNX h8 (Nat.le_refl _)⟩
  by_cases z : f = 0
  · subst z
    rw [if_pos (show nI 0 = 0 from rfl)]
    refine no _ 2 (by decide) (by decide) (by decide) ?_
    have := oDec0 hIX
    cases b with
    | true => exact this.1
    | false => exact this.2
  · rw [if_neg (fun q => z ((nI0 (by omega)).mp q)), bd_t (lIsIn (q31 (Nat.or_lt_two_pow hi ho)) (show f < 32 by omega))]
    cases y : (i ||| o).testBit f with
    | true =>
      rw [if_neg (show ¬ b2i true = 0 by decide)]
      refine no _ 3 (by decide) (by decide) (by decide) ?_
      have := oDecB hIX hf z y
      cases b with
      | true => exact this.1
      | false => exact this.2
    | false =>
      rw [if_pos (show b2i false = 0 from rfl)]
      have hi' : dI b i f < 2 ^ D 0 0 := by
        cases b with
        | true => exact Nat.or_lt_two_pow hi hpf
        | false => exact hi
      have ho' : dO b o f < 2 ^ D 0 0 := by
        cases b with
        | true => exact ho
        | false => exact Nat.or_lt_two_pow ho hpf
      obtain ⟨v, v1, v2⟩ := lPoss (C := nx X) w hi' ho' x15
      rw [bd_t v1]
      cases v with
      | false =>
        rw [if_pos (show b2i false = 0 from rfl)]
        rcases oDe hIX b hf z y with ⟨C', K, c1, c2, c3⟩ | ⟨_, c1⟩
        · exact absurd (v2.mpr c3.2.2.1) (by decide)
        · exact no _ 4 (by decide) (by decide) (by decide) c1
      | true =>
        rw [if_neg (show ¬ b2i true = 0 by decide)]
        unfold pL_isDecided_66
        rw [if_pos (show (0 : Int32) = 0 from rfl)]
        simp only [ltv, gx3, gx4, z3c, z4c, s14_15]
        have f3 : X.2 15 3 = nI (dI b i f) := x15.1.2.2.1
        have f4 : X.2 15 4 = nI (dO b o f) := x15.1.2.2.2
        rw [f3, f4, l87]
        have hA2 : Alk (sA (sA X 14 3 (nI (dI b i f))) 14 4 (nI (dO b o f))) C := hA.a14.a14
        have hN2 : NetR D (dI b i f) (dO b o f) ((sA (sA X 14 3 (nI (dI b i f))) 14 4 (nI (dO b o f))).2 14) := (hNX.setI _).setO _
        rcases oDe (hI0.alk hA2) b hf z y with ⟨C', K, c1, c2, c3⟩ | ⟨c0, _⟩
        · rw [bd_t (wW_r c1)]
          exact l104 (c3.alk Alk.rf.mg) (by decide) c2 hN2 h8
        · exact absurd (v2.mp rfl) c0
theorem lRetr (hJ : JN D i o C) {f : Nat} (hf : f < D 0 0) : ∃ C', pL_isRetracted C (nI f) = some (1, C') ∧ JX (D 0 0) C' := by
  obtain ⟨hI, hN, h8⟩ := hJ
  have hI0 := hI
  obtain ⟨w, ⟨hi, ho⟩, hex, hC⟩ := hI
  have n2 := w.n.2
  have q31 : ∀ {x : Nat}, x < 2 ^ D 0 0 → x < 2 ^ 31 := fun hx => Nat.lt_of_lt_of_le (p12 hx n2) (by decide)
  obtain ⟨e0, e1, e3, e4⟩ := hN.1
  have yes : ∀ x3 : Int32, (i ||| o).testBit f = true → (if x3 = 0 then (114 : Int32) else 99) = (if i.testBit f then 99 else 114) → ∃ C', pL_isRetracted_38 C (nI f) x3 = some (1, C') ∧ JX (D 0 0) C' := fun x3 y hx => by
    have hA2 : Alk (sA (sA C 14 3 (nI (adn i (2 ^ f)))) 14 4 (nI (adn o (2 ^ f)))) C := Alk.rf.a14.a14
    have hN2 : NetR D (adn i (2 ^ f)) (adn o (2 ^ f)) ((sA (sA C 14 3 (nI (adn i (2 ^ f)))) 14 4 (nI (adn o (2 ^ f)))).2 14) := (hN.setI _).setO _
    have u4 : ∀ (v : Int32), upd (C.2 14) 3 v 4 = C.2 14 4 := fun v => up_ne (by decide)
    unfold pL_isRetracted_38 pL_isRetracted_76
    simp only [ltv, gx3, gx4, z3c, z4c, e3, nI_sh f (show f < 31 by omega), nI_adn, s14, u4, e4]
    rcases oRet (hI0.alk hA2) hf with ⟨y0, _⟩ | ⟨_, C', c1, c2⟩
    · rw [y] at y0; cases y0
    · rw [bd_t (show pL_retract _ (nI f) = some ((if i.testBit f then 99 else 114), C') from wW_r c1), ← hx]
      by_cases q : x3 = 0
      · rw [if_pos q, if_pos q, if_pos (show (114 : Int32) = 114 from rfl)]
        exact ⟨_, rfl, JN.back c2 hN2 h8 (Nat.le_refl _)⟩
      · rw [if_neg q, if_neg q, if_pos (show (99 : Int32) = 99 from rfl)]
        exact ⟨_, rfl, JN.back c2 hN2 h8 (Nat.le_refl _)⟩
  unfold pL_isRetracted
  rw [gx3, z3c, e3, bd_t (lIsIn (q31 hi) (show f < 32 by omega))]
  have yt : (i ||| o).testBit f = (i.testBit f || o.testBit f) := Nat.testBit_or ..
  cases y : i.testBit f with
  | true =>
    rw [if_neg (show ¬ b2i true = 0 by decide)]
    exact yes _ (by rw [yt, y, Bool.true_or]) (by rw [y]; rfl)
  | false =>
    rw [if_pos (show b2i false = 0 from rfl), gx4, z4c, e4, bd_t (lIsIn (q31 ho) (show f < 32 by omega))]
    cases y2 : o.testBit f with
    | true =>
      rw [if_neg (show ¬ b2i true = 0 by decide)]
      exact yes _ (by rw [yt, y2, Bool.or_true]) (by rw [y]; rfl)
    | false =>
      rw [if_pos (show b2i false = 0 from rfl)]
      rcases oRet hI0 hf with ⟨_, c1⟩ | ⟨y0, _⟩
      · rw [bd_t (show pL_retract C (nI f) = some (-900002, C) from wW_e c1 (by decide))]
        simp only [ltv]
        rw [if_pos trivial]
        exact ⟨_, rfl, JN.back hI0 hN h8 (Nat.le_refl _)⟩
      · rw [yt, y, y2] at y0; cases y0
end LLift
