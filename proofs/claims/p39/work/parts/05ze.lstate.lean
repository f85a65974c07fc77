/-! ===== p39: the law's states ===== -/
section LState
variable {D : Dt} {i o : Nat} {C : St}
theorem lg_c0 (x : Int64) : lg_cmp x x = 0 := by
  unfold lg_cmp
  rw [if_neg (show ¬ x > x from Int64.lt_irrefl), if_pos rfl]
theorem lg_ne {a b : Nat} (ha : a < 2 ^ 31) (hb : b < 2 ^ 31) (h : a ≠ b) : ¬ lg_cmp (lN a) (lN b) = 0 := by
  unfold lg_cmp
  by_cases q : lN a > lN b
  · rw [if_pos q]; decide
  · rw [if_neg q, if_neg (fun e => h ((lN_eq ha hb).mp e))]; decide
/-- what the law has as 'all' after the first sets -/
def gA (D : Dt) (p : Nat → Bool) (k : Nat) : Nat := if ct p k = 0 then 0 else fo p (fun x S => x &&& S) (2 ^ D 0 0 - 1) k
theorem fo_none {α : Type} {p : Nat → Bool} {g : α → Nat → α} {a : α} : ∀ {n : Nat}, ct p n = 0 → fo p g a n = a
  | 0, _ => rfl
  | n + 1, h => by
    have h1 := ct_eq0.mp h
    rw [fo_s, h1 n (by omega), if_neg (show ¬ false = true by decide)]
    exact fo_none (ct_eq0.mpr fun k hk => h1 k (by omega))
theorem and_all {k n : Nat} (h : k < 2 ^ n) : (2 ^ n - 1) &&& k = k := by
  rw [Nat.and_comm, Nat.and_two_pow_sub_one_eq_mod, Nat.mod_eq_of_lt h]
theorem gA_s {p : Nat → Bool} {k : Nat} (hk : k < 2 ^ D 0 0) (hp : p k = true) : gA D p (k + 1) = if ct p k = 0 then k else gA D p k &&& k := by
  unfold gA
  rw [ct_s, hp, if_pos (show true = true from rfl), if_neg (show ¬ ct p k + 1 = 0 by omega), fo_s, hp, if_pos (show true = true from rfl)]
  by_cases z : ct p k = 0
  · rw [if_pos z, fo_none z, and_all hk]
  · rw [if_neg z, if_neg z]
theorem gA_n {p : Nat → Bool} {k : Nat} (hp : p k = false) : gA D p (k + 1) = gA D p k := by
  unfold gA
  rw [ct_s, hp, if_neg (show ¬ false = true by decide), Nat.add_zero, fo_s, hp, if_neg (show ¬ false = true by decide)]
theorem gA_lt {p : Nat → Bool} {k : Nat} (hk : k ≤ 2 ^ D 0 0) : gA D p k < 2 ^ D 0 0 := by
  unfold gA
  split
  · exact Nat.two_pow_pos _
  · exact fo_and (by have : 1 ≤ 2 ^ D 0 0 := Nat.one_le_two_pow; omega) k hk
theorem lLetter (hI : InvC D i o C) {f : Nat} (hf : f < D 0 0) : stL D i o f = if i.testBit f then 99 else if o.testBit f then 114 else if (gA D (cmpl D i o) (2 ^ D 0 0)).testBit f then 97 else if (fo (cmpl D i o) (fun x S => x ||| S) 0 (2 ^ D 0 0)).testBit f then 111 else 120 := by
  obtain ⟨w, _, ⟨S, s1, s2⟩, _⟩ := hI
  have h1 : 1 ≤ 2 ^ D 0 0 := Nat.one_le_two_pow
  have hc : ct (cmpl D i o) (2 ^ D 0 0) ≠ 0 := fun z => by rw [ct_eq0.mp z S s1] at s2; cases s2
  have e1 : (fo (cmpl D i o) (fun x S => x ||| S) 0 (2 ^ D 0 0)).testBit f = canS D i o f true := by
    rw [Bool.eq_iff_iff, fo_or_tb, canS_iff]
  have e2 : (gA D (cmpl D i o) (2 ^ D 0 0)).testBit f = !canS D i o f false := by
    unfold gA
    rw [if_neg hc]
    have := fo_and_tb (p := cmpl D i o) (a := 2 ^ D 0 0 - 1) (f := f) (m := 2 ^ D 0 0)
    cases q : canS D i o f false with
    | true =>
      obtain ⟨T, t1, t2, t3⟩ := canS_iff.mp q
      cases y : (fo (cmpl D i o) (fun x S => x &&& S) (2 ^ D 0 0 - 1) (2 ^ D 0 0)).testBit f with
      | false => rfl
      | true =>
        have := (this.mp y).2 T t1 t2
        rw [t3] at this; cases this
    | false =>
      refine this.mpr ⟨?_, fun T t1 t2 => ?_⟩
      · rw [Nat.testBit_two_pow_sub_one, decide_eq_true hf]
      · cases y : T.testBit f with
        | true => rfl
        | false => rw [canS_iff.mpr ⟨T, t1, t2, y⟩] at q; cases q
  unfold stL
  rw [e1, e2]
  cases a : canS D i o f false with
  | true => cases canS D i o f true <;> rfl
  | false =>
    have b : canS D i o f true = true := by
      cases y : S.testBit f with
      | true => exact canS_iff.mpr ⟨S, s1, s2, y⟩
      | false => rw [canS_iff.mpr ⟨S, s1, s2, y⟩] at a; cases a
    rw [b]; rfl
theorem states_136 (hI : InvC D i o C) {f : Nat} (hf : f < D 0 0) {k65 : St → Int32 → Int64 → Int32 → Int32 → Option Int32} (x2 : Int32) (x3 : Int64) (x5 t : Int32) (ht : t = stL D i o f) : pL_areStates_136 k65 C x2 x3 x5 (nI f) t = k65 C x2 x3 x5 (nI (f + 1)) := by
  obtain ⟨w, ⟨hi, ho⟩, _, hC⟩ := hI
  subst ht
  have e1 : pnL_stateOf C (nI f) = some (stL D i o f) := by
    unfold pnL_stateOf
    rw [tn_t (cState hC w hi ho hf)]
  have e2 : pnL_stateByAll C (nI f) = some (stL D i o f) := by
    unfold pnL_stateByAll
    rw [tn_t (cStateAll hC w hi ho hf)]
  unfold pL_areStates_136
  rw [bd_t e1, if_pos rfl, bd_t e2, if_pos rfl]
  simp only [ltv, p1c]
theorem lStates2 (hI : InvC D i o C) (hN : NetR D i o (C.2 14)) : pL_areStates_65 FU C (nI (gA D (cmpl D i o) (2 ^ D 0 0))) (lN (ct (cmpl D i o) (2 ^ D 0 0))) (nI (fo (cmpl D i o) (fun x S => x ||| S) 0 (2 ^ D 0 0))) 0 = some 1 := by
  have hI0 := hI
  obtain ⟨w, ⟨hi, ho⟩, ⟨S, s1, s2⟩, hC⟩ := hI
  obtain ⟨n1, n2⟩ := w.n
  have hp := p2le w
  have hcl := ct_le (cmpl D i o) (2 ^ D 0 0)
  have q31 : ∀ {x : Nat}, x < 2 ^ D 0 0 → x < 2 ^ 31 := fun hx => Nat.lt_of_lt_of_le (p12 hx n2) (by decide)
  obtain ⟨⟨e0, _, e3, e4⟩, _, _, _⟩ := id hN
  have hc : ct (cmpl D i o) (2 ^ D 0 0) ≠ 0 := fun z => by rw [ct_eq0.mp z S s1] at s2; cases s2
  have hA := gA_lt (D := D) (p := cmpl D i o) (Nat.le_refl _)
  have hO : fo (cmpl D i o) (fun x S => x ||| S) 0 (2 ^ D 0 0) < 2 ^ D 0 0 := fo_or (Nat.two_pow_pos _) _ (Nat.le_refl _)
  refine loopF (F := fun N f => pL_areStates_65 N C (nI (gA D (cmpl D i o) (2 ^ D 0 0))) (lN (ct (cmpl D i o) (2 ^ D 0 0))) (nI (fo (cmpl D i o) (fun x S => x ||| S) 0 (2 ^ D 0 0))) (nI f)) (m := D 0 0) (fun N => ?_) (fun N f hf => Or.inl ?_) FU 0 (Nat.zero_le _) (by unfold FU; omega)
  · show pL_areStates_65_b (pL_areStates_65 N) C _ _ _ (nI (D 0 0)) = _
    unfold pL_areStates_65_b
    have hlg : ¬ lg_cmp (lN (ct (cmpl D i o) (2 ^ D 0 0))) 0 ≤ 0 := by
      unfold lg_cmp
      rw [if_pos (show lN (ct (cmpl D i o) (2 ^ D 0 0)) > 0 from (lN_lt (a := 0) (by decide) (by omega)).mpr (by omega))]
      decide
    rw [gx0, z0c, e0, if_pos (nleI (by omega) (by omega) (Nat.le_refl _)), if_neg hlg, bd_t (cCount hC w hi ho), if_pos (lg_c0 _), bd_t (cCountAll hC w hi ho), if_pos (lg_c0 _)]
  · show pL_areStates_65_b (pL_areStates_65 N) C _ _ _ (nI f) = pL_areStates_65 N C _ _ _ (nI (f + 1))
    have st := states_136 hI0 hf (k65 := pL_areStates_65 N) (nI (gA D (cmpl D i o) (2 ^ D 0 0))) (lN (ct (cmpl D i o) (2 ^ D 0 0))) (nI (fo (cmpl D i o) (fun x S => x ||| S) 0 (2 ^ D 0 0)))
    have hl := lLetter hI0 hf
    unfold pL_areStates_65_b
    rw [gx0, z0c, e0, if_neg (nleN (by omega) (by omega) hf), gx3, z3c, e3, bd_t (lIsIn (q31 hi) (show f < 32 by omega)), gx4, z4c, e4, bd_t (lIsIn (q31 ho) (show f < 32 by omega)), bd_t (lIsIn (q31 hA) (show f < 32 by omega)), bd_t (lIsIn (q31 hO) (show f < 32 by omega))]
    revert hl
    cases i.testBit f with
    | true => intro hl; rw [if_neg (show ¬ b2i true = 0 by decide)]; exact st _ (by rw [hl]; rfl)
    | false =>
      rw [if_pos (show b2i false = 0 from rfl)]
      cases o.testBit f with
      | true => intro hl; rw [if_neg (show ¬ b2i true = 0 by decide)]; exact st _ (by rw [hl]; rfl)
      | false =>
        rw [if_pos (show b2i false = 0 from rfl)]
        cases (gA D (cmpl D i o) (2 ^ D 0 0)).testBit f with
        | true => intro hl; rw [if_neg (show ¬ b2i true = 0 by decide)]; exact st _ (by rw [hl]; rfl)
        | false =>
          rw [if_pos (show b2i false = 0 from rfl)]
          cases (fo (cmpl D i o) (fun x S => x ||| S) 0 (2 ^ D 0 0)).testBit f with
          | true => intro hl; rw [if_neg (show ¬ b2i true = 0 by decide)]; exact st _ (by rw [hl]; rfl)
          | false => intro hl; rw [if_pos (show b2i false = 0 from rfl)]; exact st _ (by rw [hl]; rfl)
theorem lStates (hI : InvC D i o C) (hN : NetR D i o (C.2 14)) : pL_areStates C = some 1 := by
  have hI0 := hI
  obtain ⟨w, ⟨hi, ho⟩, _, hC⟩ := hI
  obtain ⟨n1, n2⟩ := w.n
  have hp := p2le w
  have h1 : 1 ≤ 2 ^ D 0 0 := Nat.one_le_two_pow
  have g0 : gA D (cmpl D i o) 0 = 0 := if_pos rfl
  have key : pL_areStates_10 FU C (nI (gA D (cmpl D i o) 0)) (lN (ct (cmpl D i o) 0)) (nI (fo (cmpl D i o) (fun x S => x ||| S) 0 0)) (nI 0) = some 1 := by
    refine loopF (F := fun N k => pL_areStates_10 N C (nI (gA D (cmpl D i o) k)) (lN (ct (cmpl D i o) k)) (nI (fo (cmpl D i o) (fun x S => x ||| S) 0 k)) (nI k)) (m := 2 ^ D 0 0) (fun N => ?_) (fun N k hk => Or.inl ?_) FU 0 (Nat.zero_le _) (by unfold FU; omega)
    · show pL_areStates_10_b (pL_areStates_10 N) C _ _ _ (nI (2 ^ D 0 0)) = _
      unfold pL_areStates_10_b
      rw [gx0, z0c, hN.1.1, shAll w, if_pos (nleI (by omega) (by omega) (Nat.le_refl _))]
      exact lStates2 hI0 hN
    · show pL_areStates_10_b (pL_areStates_10 N) C _ _ _ (nI k) = pL_areStates_10 N C _ _ _ (nI (k + 1))
      have hcl := ct_le (cmpl D i o) k
      unfold pL_areStates_10_b
      rw [gx0, z0c, hN.1.1, shAll w, if_neg (nleN (by omega) (by omega) hk), bd_t (lCompl w hi ho hN hk)]
      cases q : cmpl D i o k with
      | false =>
        rw [if_pos (show b2i false = 0 from rfl), gA_n q, ct_s, fo_s, q, if_neg (show ¬ false = true by decide), if_neg (show ¬ false = true by decide), Nat.add_zero]
        unfold pL_areStates_56
        simp only [ltv, p1c]
      | true =>
        rw [if_neg (show ¬ b2i true = 0 by decide), gA_s hk q, ct_s, fo_s, q, if_pos (show true = true from rfl), if_pos (show true = true from rfl)]
        unfold pL_areStates_48 pL_areStates_56
        simp only [ltv, p1c, lN_1, nI_land, nI_lor]
        by_cases z : ct (cmpl D i o) k = 0
        · rw [if_pos z, z, if_pos (show lg_cmp (lN (0 + 1)) 1 = 0 from lg_c0 _)]
        · rw [if_neg z, if_neg (show ¬ lg_cmp (lN (ct (cmpl D i o) k + 1)) 1 = 0 from lg_ne (b := 1) (by omega) (by decide) (by omega))]
  rw [g0] at key
  exact key
end LState
