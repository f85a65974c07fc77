/-! ===== p39: the law's own row, and what its functions say of it ===== -/
theorem z0c : (0 : Int32).toNatClampNeg = 0 := rfl
theorem z1c : (1 : Int32).toNatClampNeg = 1 := rfl
theorem z3c : (3 : Int32).toNatClampNeg = 3 := rfl
theorem z4c : (4 : Int32).toNatClampNeg = 4 := rfl
theorem gx0 {α : Type} {k : Option α} : gd (ix 0 250) k = k := gd_t (by decide)
theorem gx1 {α : Type} {k : Option α} : gd (ix 1 250) k = k := gd_t (by decide)
theorem gx3 {α : Type} {k : Option α} : gd (ix 3 250) k = k := gd_t (by decide)
theorem gx4 {α : Type} {k : Option α} : gd (ix 4 250) k = k := gd_t (by decide)
theorem a10 (c : Nat) : (10 : Int32) + nI c = nI (10 + c) := nI_add 10 c
theorem a30 (c : Nat) : (30 : Int32) + nI c = nI (30 + c) := nI_add 30 c
theorem a50 (c : Nat) : (50 : Int32) + nI c = nI (50 + c) := nI_add 50 c
theorem a70 (c : Nat) : (70 : Int32) + nI c = nI (70 + c) := nI_add 70 c
theorem a90 (c : Nat) : (90 : Int32) + nI c = nI (90 + c) := nI_add 90 c
theorem m5 (r : Nat) : (5 : Int32) * nI r = nI (5 * r) := pk_mul 5 r
theorem a110 (r : Nat) : (110 : Int32) + (5 : Int32) * nI r = nI (110 + 5 * r) := by rw [m5]; exact nI_add 110 (5 * r)
theorem a114 (r : Nat) : (114 : Int32) + (5 : Int32) * nI r = nI (114 + 5 * r) := by rw [m5]; exact nI_add 114 (5 * r)
theorem p1c (a : Nat) : nI a + 1 = nI (a + 1) := nI_add a 1
theorem p2c (a : Nat) : nI a + 2 = nI (a + 2) := nI_add a 2
theorem p3c (a : Nat) : nI a + 3 = nI (a + 3) := nI_add a 3
theorem p4c (a : Nat) : nI a + 4 = nI (a + 4) := nI_add a 4
def NetR (D : Dt) (i o : Nat) (n : Nat → Int32) : Prop :=
  (n 0 = nI (D 0 0) ∧ n 1 = nI (D 0 1) ∧ n 3 = nI i ∧ n 4 = nI o) ∧
  ((∀ f, 1 ≤ f → f < D 0 0 → n (10 + f) = nI (D 1 f)) ∧ (∀ f, f < 12 → n (50 + f) = nI (D 2 f)) ∧ (∀ f, f < D 0 0 → n (70 + f) = nI (D 3 f)) ∧ (∀ f, f < 12 → n (90 + f) = nI (D 4 f))) ∧
  (∀ r, r < D 0 1 → n (110 + 5 * r) = nI (D 5 r) ∧ n (110 + 5 * r + 1) = nI (D 6 r) ∧ n (110 + 5 * r + 2) = nI (D 7 r) ∧ (D 5 r = 2 → n (110 + 5 * r + 3) = nI (D 8 r)) ∧ n (110 + 5 * r + 4) = nI (D 9 r)) ∧
  (∀ r, D 0 1 ≤ r → r < 20 → n (110 + 5 * r + 4) = 0)
section LNet
variable {D : Dt} {i o : Nat} {C : St}
theorem lIsIn {S f : Nat} (hS : S < 2 ^ 31) (hf : f < 32) : pL_isIn (nI S) (nI f) = some (b2i (S.testBit f)) := by
  unfold pL_isIn
  rw [nI_hasE hS hf]
  cases S.testBit f <;> rfl
/-! the tree -/
def trB (D : Dt) (S : Nat) : Nat → Nat → Bool
  | 0, _ => false
  | k + 1, f => allb (fun c => !kid D f c || ((S.testBit c || (!decide (D 4 c = 1) || !S.testBit f)) && ((S.testBit f || !S.testBit c) && trB D S k c))) (D 0 0) && gGrp D S f (ct (gCt D S f) (D 0 0))
theorem trB_s {S k f : Nat} : trB D S (k + 1) f = (allb (fun c => !kid D f c || ((S.testBit c || (!decide (D 4 c = 1) || !S.testBit f)) && ((S.testBit f || !S.testBit c) && trB D S k c))) (D 0 0) && gGrp D S f (ct (gCt D S f) (D 0 0))) := rfl
theorem tree_step {self : St → Int32 → Int32 → Option Int32} {k10 : St → Int32 → Int32 → Int32 → Int32 → Int32 → Option Int32} {x1 x2 x5 t0 t1 : Int32} {sc sf m a t : Bool} (h1 : pL_isIn x1 x5 = some (b2i sc)) (h2 : pL_isIn x1 x2 = some (b2i sf)) (hg : ix (90 + x5) 250) (hm : C.2 14 (90 + x5).toNatClampNeg = b2i m) (ht : self C x1 x5 = some (b2i t)) :
    pL_isTree_44 self k10 C x1 x2 (b2i a) x5 t0 t1 = k10 C x1 x2 (t0 + t1) (b2i (a && ((sc || (!m || !sf)) && ((sf || !sc) && t)))) (x5 + 1) := by
  unfold pL_isTree_44 pL_isTree_75 pL_isTree_80 pL_isTree_102 pL_isTree_107 pL_isTree_129 pL_isTree_130 pL_isTree_132
  simp only [ltv, bd_t h1, bd_t h2, gd_t hg, hm, bd_t ht, b2i_a1, b2i_a0]
  cases sc <;> cases sf <;> cases m <;> cases a <;> cases t <;> rfl
theorem kid_no (w : WF D) {f c : Nat} (h : c ≤ f) : kid D f c = false := by
  cases q : kid D f c with
  | false => rfl
  | true =>
    unfold kid at q
    simp only [Bool.and_eq_true, decide_eq_true_eq] at q
    obtain ⟨q1, q2, q3⟩ := q
    have := w.2.1 c q1 q2
    omega
theorem kid_yes {f c : Nat} (h1 : 1 ≤ c) (h2 : c < D 0 0) : kid D f c = decide (D 1 c = f) := by
  unfold kid
  rw [decide_eq_true h1, decide_eq_true h2]
  rfl
theorem lTree (w : WF D) (hN : NetR D i o (C.2 14)) {S : Nat} (hS : S < 2 ^ D 0 0) : ∀ k f, f < D 0 0 → D 0 0 ≤ f + k → pL_isTree k C (nI S) (nI f) = some (b2i (trB D S k f))
  | 0, f, hf, hk => by omega
  | k + 1, f, hf, hk => by
    obtain ⟨n1, n2⟩ := w.n
    obtain ⟨⟨e0, _, _, _⟩, ⟨ep, el, eg, em⟩, _, _⟩ := id hN
    have q31 : S < 2 ^ 31 := Nat.lt_of_lt_of_le (p12 hS n2) (by decide)
    have isS : ∀ c, c < 32 → pL_isIn (nI S) (nI c) = some (b2i (S.testBit c)) := fun c hc => lIsIn q31 hc
    have ih := lTree w hN hS k
    show pL_isTree_e (pL_isTree k) C (nI S) (nI f) = _
    unfold pL_isTree_e
    simp only [ltv, p1c]
    let P : Nat → Bool := fun c => !kid D f c || ((S.testBit c || (!decide (D 4 c = 1) || !S.testBit f)) && ((S.testBit f || !S.testBit c) && trB D S k c))
    have hct0 : ct (gCt D S f) (f + 1) = 0 := ct_eq0.mpr fun c hc => by
      unfold gCt
      rw [kid_no w (by omega)]; rfl
    have hal0 : allb P (f + 1) = true := allb_iff.mpr fun c hc => by
      show (!kid D f c || _) = true
      rw [kid_no w (by omega)]; rfl
    have key : pL_isTree_10 (pL_isTree k) FU C (nI S) (nI f) (nI (ct (gCt D S f) (f + 1))) (b2i (allb P (f + 1))) (nI (f + 1)) = some (b2i (trB D S (k + 1) f)) := by
      refine loopF (F := fun N j => pL_isTree_10 (pL_isTree k) N C (nI S) (nI f) (nI (ct (gCt D S f) (f + 1 + j))) (b2i (allb P (f + 1 + j))) (nI (f + 1 + j))) (m := D 0 0 - (f + 1)) (fun N => ?_) (fun N j hj => Or.inl ?_) FU 0 (Nat.zero_le _) (by unfold FU; omega)
      · show pL_isTree_10_b (pL_isTree k) (pL_isTree_10 (pL_isTree k) N) C (nI S) (nI f) _ _ (nI (f + 1 + (D 0 0 - (f + 1)))) = _
        have hc := ct_le (gCt D S f) (D 0 0)
        have hlo := (w.g (show f < 12 by omega)).1
        have hhi := (w.g (show f < 12 by omega)).2.1
        unfold pL_isTree_10_b
        rw [show f + 1 + (D 0 0 - (f + 1)) = D 0 0 by omega, gx0, z0c, e0, if_pos (nleI (by omega) (by omega) (Nat.le_refl _)), bd_t (isS f (by omega)), a50, a70, gd_ix (show 50 + f < 250 by omega), gd_ix (show 70 + f < 250 by omega), nI_clp (show 50 + f < 2 ^ 31 by omega), nI_clp (show 70 + f < 2 ^ 31 by omega), el f (by omega), eg f hf, trB_s]
        show (if b2i (allb P (D 0 0)) = 0 then _ else _) = some (b2i (allb P (D 0 0) && _))
        unfold gGrp
        cases allb P (D 0 0) with
        | false => rfl
        | true =>
          rw [if_neg (show ¬ b2i true = 0 by decide), Bool.true_and]
          cases S.testBit f with
          | false => rfl
          | true =>
            rw [if_neg (show ¬ b2i true = 0 by decide)]
            generalize ct (gCt D S f) (D 0 0) = x at hc ⊢
            by_cases y1 : D 2 f ≤ x
            · rw [if_neg (nltN (by omega) (by omega) y1), decide_eq_true y1]
              by_cases y2 : x ≤ D 3 f
              · rw [if_neg (nltN (by omega) (by omega) y2), decide_eq_true y2]; rfl
              · rw [if_pos (nltI (by omega) (by omega) (by omega)), decide_eq_false y2]; rfl
            · rw [if_pos (nltI (by omega) (by omega) (by omega)), decide_eq_false y1]; rfl
      · show pL_isTree_10_b (pL_isTree k) (pL_isTree_10 (pL_isTree k) N) C (nI S) (nI f) _ _ (nI (f + 1 + j)) = pL_isTree_10 (pL_isTree k) N C (nI S) (nI f) _ _ (nI (f + 1 + (j + 1)))
        rw [show f + 1 + (j + 1) = (f + 1 + j) + 1 by omega]
        have hc : f + 1 + j < D 0 0 := by omega
        have hc1 : f < f + 1 + j := by omega
        generalize f + 1 + j = c at hc hc1 ⊢
        have hfc := hc1
        replace hc1 : 1 ≤ c := by omega
        have hP : allb P (c + 1) = (allb P c && P c) := rfl
        rw [hP, ct_s]
        unfold pL_isTree_10_b
        rw [gx0, z0c, e0, if_neg (nleN (by omega) (by omega) hc), a10, gd_ix (show 10 + c < 250 by omega), nI_clp (show 10 + c < 2 ^ 31 by omega), ep c hc1 hc, bd_t (isS c (by omega))]
        have hpc := w.2.1 c hc1 hc
        by_cases y : D 1 c = f
        · have hk : kid D f c = true := by rw [kid_yes hc1 hc, decide_eq_true y]
          have eP : P c = ((S.testBit c || (!decide (D 4 c = 1) || !S.testBit f)) && ((S.testBit f || !S.testBit c) && trB D S k c)) := by
            show (!kid D f c || _) = _
            rw [hk]; rfl
          have eG : gCt D S f c = S.testBit c := by unfold gCt; rw [hk]; rfl
          have em' : C.2 14 (90 + nI c).toNatClampNeg = b2i (decide (D 4 c = 1)) := by
            rw [a90, nI_clp (show 90 + c < 2 ^ 31 by omega), em c (by omega)]
            have h4 := (w.g (show c < 12 by omega)).2.2
            have : D 4 c = 0 ∨ D 4 c = 1 := by omega
            rcases this with q | q <;> rw [q] <;> rfl
          have hg : ix (90 + nI c) 250 := by rw [a90]; exact nI_in (by omega) (by decide)
          have st := fun t1 => tree_step (k10 := pL_isTree_10 (pL_isTree k) N) (t0 := nI (ct (gCt D S f) c)) (t1 := t1) (a := allb P c) (isS c (by omega)) (isS f (by omega)) hg em' (ih c hc (by omega))
          rw [if_pos (show nI (D 1 c) = nI f by rw [y]), eP, eG, st 0, st 1]
          cases S.testBit c with
          | false =>
            rw [if_pos (show b2i false = 0 from rfl), if_neg (show ¬ false = true by decide)]
            simp only [p1c, Int32.add_zero, Nat.add_zero]
          | true =>
            rw [if_neg (show ¬ b2i true = 0 by decide), if_pos (show true = true from rfl)]
            simp only [p1c]
        · have hk : kid D f c = false := by rw [kid_yes hc1 hc, decide_eq_false y]
          have eP : P c = true := by
            show (!kid D f c || _) = true
            rw [hk]; rfl
          have eG : gCt D S f c = false := by unfold gCt; rw [hk]; rfl
          rw [if_neg (fun q => y ((nI_eq (by omega) (by omega)).mp q)), eP, eG, Bool.and_true, if_neg (show ¬ false = true by decide), Nat.add_zero]
          unfold pL_isTree_132
          simp only [ltv, p1c]
    rw [hct0, hal0] at key
    exact key
def nodB (D : Dt) (S f : Nat) : Bool := allb (fun c => !kid D f c || ((S.testBit c || (!decide (D 4 c = 1) || !S.testBit f)) && (S.testBit f || !S.testBit c))) (D 0 0) && gGrp D S f (ct (gCt D S f) (D 0 0))
theorem trB_A {S k f : Nat} (h : trB D S (k + 1) f = true) : nodB D S f = true ∧ ∀ c, c < D 0 0 → kid D f c = true → trB D S k c = true := by
  rw [trB_s, Bool.and_eq_true] at h
  have h1 := allb_iff.mp h.1
  refine ⟨?_, fun c hc hk => ?_⟩
  · unfold nodB
    rw [Bool.and_eq_true]
    refine ⟨allb_iff.mpr fun c hc => ?_, h.2⟩
    have := h1 c hc
    try dsimp only at this
    try dsimp only
    revert this
    cases kid D f c <;> cases S.testBit c <;> cases S.testBit f <;> cases decide (D 4 c = 1) <;> cases trB D S k c <;> simp
  · have := h1 c hc
    try dsimp only at this
    rw [hk] at this
    revert this
    cases S.testBit c <;> cases S.testBit f <;> cases decide (D 4 c = 1) <;> cases trB D S k c <;> simp
theorem trB_B (w : WF D) {S : Nat} (h : ∀ f, f < D 0 0 → nodB D S f = true) : ∀ k f, f < D 0 0 → D 0 0 ≤ f + k → trB D S k f = true
  | 0, f, hf, hk => by omega
  | k + 1, f, hf, hk => by
    have hn := h f hf
    unfold nodB at hn
    rw [Bool.and_eq_true] at hn
    rw [trB_s, Bool.and_eq_true]
    refine ⟨allb_iff.mpr fun c hc => ?_, hn.2⟩
    have h1 := allb_iff.mp hn.1 c hc
    try dsimp only at h1
    try dsimp only
    cases hkid : kid D f c with
    | false => rfl
    | true =>
      rw [hkid] at h1
      have hcf : f < c := by
        rcases Nat.lt_or_ge f c with q | q
        · exact q
        · rw [kid_no w q] at hkid; cases hkid
      rw [trB_B w h k c hc (by omega)]
      revert h1
      cases S.testBit c <;> cases S.testBit f <;> cases decide (D 4 c = 1) <;> simp
theorem trB_C (w : WF D) {S k : Nat} (h : trB D S (k + 1) 0 = true) : ∀ f, f < D 0 0 → ∃ j, trB D S (j + 1) f = true := by
  intro f
  induction f using Nat.strongRecOn with
  | ind f ih =>
    intro hf
    by_cases z : f = 0
    · rw [z]; exact ⟨k, h⟩
    · have hp := w.2.1 f (by omega) hf
      obtain ⟨j, hj⟩ := ih (D 1 f) hp (by omega)
      have := (trB_A hj).2 f hf (by rw [kid_yes (by omega) hf, decide_eq_true rfl])
      cases j with
      | zero => cases this
      | succ j => exact ⟨j, this⟩
theorem nod_ok (w : WF D) {S : Nat} : (∀ f, f < D 0 0 → nodB D S f = true) ↔ ∀ f, f < D 0 0 → (!S.testBit f || okAt D S f) = true := by
  constructor
  · intro h f hf
    rw [← gStep w hf, Bool.and_eq_true, Bool.and_eq_true]
    have hn := h f hf
    unfold nodB at hn
    rw [Bool.and_eq_true] at hn
    refine ⟨allb_iff.mpr fun c hc => ?_, ?_, hn.2⟩
    · have := allb_iff.mp hn.1 c hc
      unfold gIn
      try dsimp only at this
      revert this
      cases kid D f c <;> cases S.testBit c <;> cases S.testBit f <;> cases decide (D 4 c = 1) <;> simp
    · unfold gPar
      by_cases z : f = 0
      · rw [decide_eq_true z]; cases S.testBit f <;> rfl
      · have hp := w.2.1 f (by omega) hf
        have hm := h (D 1 f) (by omega)
        unfold nodB at hm
        rw [Bool.and_eq_true] at hm
        have := allb_iff.mp hm.1 f hf
        try dsimp only at this
        rw [kid_yes (by omega) hf, decide_eq_true rfl] at this
        rw [decide_eq_false z]
        revert this
        cases S.testBit f <;> cases S.testBit (D 1 f) <;> cases decide (D 4 f = 1) <;> simp
  · intro h f hf
    have hg := h f hf
    rw [← gStep w hf, Bool.and_eq_true, Bool.and_eq_true] at hg
    unfold nodB
    rw [Bool.and_eq_true]
    refine ⟨allb_iff.mpr fun c hc => ?_, hg.2.2⟩
    try dsimp only
    cases hk : kid D f c with
    | false => rfl
    | true =>
      have h1 := allb_iff.mp hg.1 c hc
      unfold gIn at h1
      rw [hk] at h1
      have hk2 := hk
      unfold kid at hk2
      simp only [Bool.and_eq_true, decide_eq_true_eq] at hk2
      obtain ⟨q1, q2, q3⟩ := hk2
      have h2 := h c hc
      rw [← gStep w hc, Bool.and_eq_true, Bool.and_eq_true] at h2
      have h3 := h2.2.1
      unfold gPar at h3
      rw [decide_eq_false (show ¬ c = 0 by omega), q3] at h3
      revert h1 h3
      cases S.testBit c <;> cases S.testBit f <;> cases decide (D 4 c = 1) <;> simp
theorem trB_ok (w : WF D) {S k : Nat} (hk : D 0 0 ≤ k) : (S.testBit 0 && trB D S k 0) = treeOk D S := by
  have n1 := w.n.1
  unfold treeOk
  congr 1
  rw [Bool.eq_iff_iff]
  constructor
  · intro h
    cases k with
    | zero => cases h
    | succ k => exact allb_iff.mpr fun f hf => (nod_ok w).mp (fun f hf => by obtain ⟨j, hj⟩ := trB_C w h f hf; exact (trB_A hj).1) f hf
  · intro h
    exact trB_B w ((nod_ok w).mpr fun f hf => allb_iff.mp h f hf) k 0 n1 (by omega)
end LNet
