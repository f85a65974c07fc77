/-! ===== the class's numbers out of a model's ===== -/
def mandM (D : Dt) : Nat := mkb (fun f => decide (D 4 f = 1)) 12
def forceM (D : Dt) : Nat := mkb (fun r => decide (D 9 r = 0)) (D 0 1)
def kidM (D : Dt) (f : Nat) : Nat := mkb (kid D f) 12
def wantM (D : Dt) (r : Nat) : Nat := if D 5 r = 0 then 2 ^ D 7 r else if D 5 r = 1 then 0 else 2 ^ D 6 r ||| 2 ^ D 7 r ||| 2 ^ D 8 r
def unwM (D : Dt) (r : Nat) : Nat := if D 5 r = 0 then 2 ^ D 6 r else if D 5 r = 1 then 2 ^ D 6 r ||| 2 ^ D 7 r else 0
def lastM (D : Dt) (r : Nat) : Nat := if D 5 r = 2 then max (D 6 r) (max (D 7 r) (D 8 r)) else max (D 6 r) (D 7 r)
def detM (D : Dt) (k : Nat) : Nat := if D 11 k = 0 then 2 ^ D 12 k ||| 2 ^ D 13 k else if D 11 k = 1 then 0 else D 12 k
/-- the tree, the rules, the prices as the class holds them; i, o: the decisions -/
def RelC (D : Dt) (i o : Nat) (C : St) : Prop :=
  (C.1 0 = nI i ∧ C.1 1 = nI o ∧ C.1 2 = nI (mandM D) ∧ C.1 3 = nI (D 0 0) ∧ C.1 4 = nI (forceM D) ∧ C.1 5 = nI (D 0 1) ∧ C.1 6 = nI (D 0 2)) ∧
  (C.2 0 0 = -1 ∧ (∀ f, 1 ≤ f → f < D 0 0 → C.2 0 f = nI (D 1 f)) ∧ (∀ f, f < 12 → C.2 1 f = nI (kidM D f)) ∧ (∀ f, f < 12 → C.2 2 f = nI (D 2 f)) ∧ (∀ f, f < D 0 0 → C.2 3 f = nI (D 3 f))) ∧
  (∀ r, r < D 0 1 → C.2 4 r = nI (wantM D r) ∧ C.2 5 r = nI (unwM D r) ∧ C.2 6 r = nI (lastM D r)) ∧
  (∀ f, f < 12 → C.2 7 f = nI (D 10 f)) ∧ (∀ k, k < D 0 2 → C.2 8 k = nI (D 11 k) ∧ C.2 9 k = nI (detM D k) ∧ C.2 10 k = nI (D 14 k))
/-- an answer that says whether -/
def isB (x : Option Int32) (P : Prop) : Prop := ∃ b : Bool, x = some (b2i b) ∧ (b = true ↔ P)
theorem isB_of {x : Option Int32} {b : Bool} (h : x = some (b2i b)) {P : Prop} (hb : b = true ↔ P) : isB x P := ⟨b, h, hb⟩
theorem isB_t {P : Prop} (h : P) : isB (some 1) P := ⟨true, rfl, iff_of_true rfl h⟩
theorem isB_f {P : Prop} (h : ¬ P) : isB (some 0) P := ⟨false, rfl, iff_of_false (by decide) h⟩
theorem isB.congr {x : Option Int32} {P Q : Prop} (h : isB x P) (hpq : P ↔ Q) : isB x Q := by
  obtain ⟨b, h1, h2⟩ := h
  exact ⟨b, h1, h2.trans hpq⟩
theorem isB.val {x : Option Int32} {b : Bool} (h : isB x (b = true)) : x = some (b2i b) := by
  obtain ⟨c, h1, h2⟩ := h
  have : c = b := by
    cases b <;> cases c <;> simp_all
  rw [h1, this]
/-- go on behind a call that says whether -/
theorem bd_isB {x : Option Int32} {P Q : Prop} {k : Int32 → Option Int32} (h : isB x P) (ht : P → isB (k 1) Q) (hf : ¬ P → isB (k 0) Q) : isB (bd x k) Q := by
  obtain ⟨b, h1, h2⟩ := h
  cases b with
  | true => rw [bd_t h1]; exact ht (h2.mp rfl)
  | false => rw [bd_t h1]; exact hf (fun hp => by have := h2.mpr hp; cases this)
theorem if_isB {c : Prop} [Decidable c] {x y : Option Int32} {Q : Prop} (ht : c → isB x Q) (hf : ¬ c → isB y Q) : isB (if c then x else y) Q := by
  by_cases h : c
  · rw [if_pos h]; exact ht h
  · rw [if_neg h]; exact hf h
theorem if0_1 {α : Type} {x y : α} : (if (1 : Int32) = 0 then x else y) = y := if_neg (by decide)
theorem if0_0 {α : Type} {x y : α} : (if (0 : Int32) = 0 then x else y) = x := if_pos rfl
theorem p12 {s n : Nat} (h : s < 2 ^ n) (hn : n ≤ 12) : s < 2 ^ 12 := Nat.lt_of_lt_of_le h (Nat.pow_le_pow_right (by decide) hn)
theorem p31 {s n : Nat} (h : s < 2 ^ n) (hn : n ≤ 30) : s < 2 ^ 31 := Nat.lt_of_lt_of_le h (Nat.pow_le_pow_right (by decide) (by omega))
theorem nI_clp {n : Nat} (h : n < 2 ^ 31) : (nI n).toNatClampNeg = n := nI_clamp h
theorem cHas (C : St) {s f : Nat} (hs : s < 2 ^ 31) (hf : f < 32) : pX6_has C (nI s) (nI f) = some (b2i (s.testBit f)) := by
  unfold pX6_has
  rw [nI_hasE hs hf]
  cases s.testBit f with
  | true => rw [if_neg (by decide)]; rfl
  | false => rw [if_pos (by decide)]; rfl
theorem cHasB (C : St) {s f : Nat} (hs : s < 2 ^ 31) (hf : f < 32) : isB (pX6_has C (nI s) (nI f)) (s.testBit f = true) := isB_of (cHas C hs hf) Iff.rfl
theorem hasAll0 : ∀ a, a < 64 → ∀ b, b < 64 → pJ6_bitCount_0f7a4 (nI (a * 64 + b)) = some (nI (ct (fun i => (a * 64 + b).testBit i) 12)) := by decide +kernel
theorem hasAll (s : Nat) (h : s < 4096) : pJ6_bitCount_0f7a4 (nI s) = some (nI (ct (fun i => s.testBit i) 12)) := by
  have e : s / 64 * 64 + s % 64 = s := by omega
  have := hasAll0 (s / 64) (by omega) (s % 64) (by omega)
  rw [e] at this
  exact this
theorem bitCnt {s : Nat} (h : s < 2 ^ 12) : pJ6_bitCount_0f7a4 (nI s) = some (nI (ct (fun i => s.testBit i) 12)) := hasAll s h
theorem kidM_lt (D : Dt) (f : Nat) : kidM D f < 2 ^ 12 := mkb_lt _ _
theorem mandM_lt (D : Dt) : mandM D < 2 ^ 12 := mkb_lt _ _
theorem and_lt {a b n : Nat} (h : a < 2 ^ n) : a &&& b < 2 ^ n := Nat.lt_of_le_of_lt Nat.and_le_left h
theorem kidM_tb (D : Dt) (f c : Nat) : (kidM D f).testBit c = (decide (c < 12) && kid D f c) := mkb_tb _ _ _
theorem mandM_tb (D : Dt) (c : Nat) : (mandM D).testBit c = (decide (c < 12) && decide (D 4 c = 1)) := mkb_tb _ _ _
theorem kidsE (D : Dt) (f S : Nat) : ct (fun i => (kidM D f &&& S).testBit i) 12 = kids D f S := by
  unfold kids
  refine ct_cong fun k hk => ?_
  rw [Nat.testBit_and, kidM_tb, decide_eq_true hk, Bool.true_and]
theorem zero_tb {x n : Nat} (h : x < 2 ^ n) : x = 0 ↔ ∀ i, i < n → x.testBit i = false := by
  constructor
  · intro h0 i _; rw [h0]; exact Nat.zero_testBit i
  · intro h1; exact bits_ext h (Nat.two_pow_pos n) (fun i hi => by rw [h1 i hi, Nat.zero_testBit])
theorem nI0 {n : Nat} (h : n < 2 ^ 31) : nI n = 0 ↔ n = 0 := nI_eq (b := 0) h (by decide)
section CompTree
variable {D : Dt} {i o : Nat} {C : St}
theorem RelC.n (h : RelC D i o C) : C.1 3 = nI (D 0 0) := h.1.2.2.2.1
theorem RelC.md (h : RelC D i o C) : C.1 2 = nI (mandM D) := h.1.2.2.1
theorem RelC.r (h : RelC D i o C) : C.1 5 = nI (D 0 1) := h.1.2.2.2.2.2.1
theorem RelC.fo (h : RelC D i o C) : C.1 4 = nI (forceM D) := h.1.2.2.2.2.1
theorem RelC.la (h : RelC D i o C) : C.1 6 = nI (D 0 2) := h.1.2.2.2.2.2.2
theorem RelC.ci (h : RelC D i o C) : C.1 0 = nI i := h.1.1
theorem RelC.co (h : RelC D i o C) : C.1 1 = nI o := h.1.2.1
theorem RelC.p0 (h : RelC D i o C) : C.2 0 0 = -1 := h.2.1.1
theorem RelC.p (h : RelC D i o C) {f : Nat} (h1 : 1 ≤ f) (h2 : f < D 0 0) : C.2 0 f = nI (D 1 f) := h.2.1.2.1 f h1 h2
theorem RelC.k (h : RelC D i o C) {f : Nat} (h1 : f < 12) : C.2 1 f = nI (kidM D f) := h.2.1.2.2.1 f h1
theorem RelC.lo (h : RelC D i o C) {f : Nat} (h1 : f < 12) : C.2 2 f = nI (D 2 f) := h.2.1.2.2.2.1 f h1
theorem RelC.hi (h : RelC D i o C) {f : Nat} (h1 : f < D 0 0) : C.2 3 f = nI (D 3 f) := h.2.1.2.2.2.2 f h1
theorem RelC.ru (h : RelC D i o C) {r : Nat} (h1 : r < D 0 1) : C.2 4 r = nI (wantM D r) ∧ C.2 5 r = nI (unwM D r) ∧ C.2 6 r = nI (lastM D r) := h.2.2.1 r h1
theorem RelC.pr (h : RelC D i o C) {f : Nat} (h1 : f < 12) : C.2 7 f = nI (D 10 f) := h.2.2.2.1 f h1
theorem RelC.ly (h : RelC D i o C) {k : Nat} (h1 : k < D 0 2) : C.2 8 k = nI (D 11 k) ∧ C.2 9 k = nI (detM D k) ∧ C.2 10 k = nI (D 14 k) := h.2.2.2.2 k h1
theorem WF.n (w : WF D) : 1 ≤ D 0 0 ∧ D 0 0 ≤ 12 := ⟨w.1.1, w.1.2.1⟩
theorem WF.r (w : WF D) : D 0 1 ≤ 20 := w.1.2.2.1
theorem WF.la (w : WF D) : D 0 2 ≤ 6 := w.1.2.2.2
theorem WF.p (w : WF D) {f : Nat} (h1 : 1 ≤ f) (h2 : f < D 0 0) : D 1 f < f := w.2.1 f h1 h2
theorem WF.g (w : WF D) {f : Nat} (h : f < 12) : D 2 f ≤ 12 ∧ D 3 f ≤ 12 ∧ D 4 f ≤ 1 := w.2.2.1 f h
theorem WF.b (w : WF D) {f : Nat} (h : D 0 0 ≤ f) (h2 : f < 12) : D 2 f = 0 ∧ D 4 f = 0 := w.2.2.2.1 f h h2
theorem WF.ru (w : WF D) {r : Nat} (h : r < D 0 1) : D 5 r ≤ 2 ∧ D 6 r < D 0 0 ∧ D 7 r < D 0 0 ∧ D 8 r < D 0 0 ∧ D 9 r ≤ 1 ∧ (D 5 r ≠ 2 → D 8 r = D 6 r) ∧ D 6 r ≠ D 7 r ∧ (D 5 r = 2 → D 6 r ≠ D 8 r ∧ D 7 r ≠ D 8 r) := w.2.2.2.2.1 r h
theorem kid_iff {f c : Nat} : kid D f c = true ↔ 1 ≤ c ∧ c < D 0 0 ∧ D 1 c = f := by
  unfold kid
  rw [Bool.and_eq_true, Bool.and_eq_true, decide_eq_true_iff, decide_eq_true_iff, decide_eq_true_iff]
theorem kids_le {f S : Nat} : kids D f S ≤ 12 := ct_le _ _
theorem okAt_iff {S f : Nat} : okAt D S f = true ↔ (f = 0 ∨ S.testBit (D 1 f) = true) ∧ (∀ c, c < 12 → kid D f c = true → D 4 c = 1 → S.testBit c = true) ∧ D 2 f ≤ kids D f S ∧ kids D f S ≤ D 3 f := by
  unfold okAt
  rw [Bool.and_eq_true, Bool.and_eq_true, Bool.and_eq_true, Bool.or_eq_true, decide_eq_true_iff, decide_eq_true_iff, decide_eq_true_iff, allb_iff]
  refine and_congr Iff.rfl (and_congr ⟨fun h c hc h1 h2 => ?_, fun h c hc => ?_⟩ Iff.rfl)
  · have := h c hc
    rw [h1, decide_eq_true h2] at this
    simpa using this
  · cases h1 : kid D f c with
    | false => rfl
    | true =>
      by_cases h2 : D 4 c = 1
      · rw [h c hc h1 h2]; simp
      · rw [decide_eq_false h2]; rfl
theorem cAllowsAt21 (h : RelC D i o C) (w : WF D) {f S : Nat} (hf : f < D 0 0) (hS : S < 2 ^ D 0 0) : isB (pX5_allowsAt_21 C (nI f) (nI S)) ((∀ c, c < 12 → kid D f c = true → D 4 c = 1 → S.testBit c = true) ∧ D 2 f ≤ kids D f S ∧ kids D f S ≤ D 3 f) := by
  obtain ⟨n1, n2⟩ := w.n
  have f12 : f < 12 := by omega
  have hS12 := p12 hS n2
  obtain ⟨g1, g2, -⟩ := w.g f12
  have hk := kids_le (D := D) (f := f) (S := S)
  unfold pX5_allowsAt_21
  simp only [ltv, gd_ix f12, nI_clp (show f < 2 ^ 31 by omega), h.k f12, h.md, h.lo f12, h.hi hf]
  rw [nI_land, nI_land, nI_adn, bd_t (bitCnt (and_lt (kidM_lt D f))), kidsE]
  have hz : nI (adn (kidM D f &&& mandM D) S) = 0 ↔ ∀ c, c < 12 → kid D f c = true → D 4 c = 1 → S.testBit c = true := by
    have hlt : adn (kidM D f &&& mandM D) S < 2 ^ 12 := lt_tb fun j hj => by
      rw [adn_tb, Nat.testBit_and, tb_lt (kidM_lt D f) hj]; rfl
    rw [nI0 (Nat.lt_of_lt_of_le hlt (by decide)), zero_tb hlt]
    refine forall_congr' fun c => ⟨fun q hc h1 h2 => ?_, fun q hc => ?_⟩
    · have := q hc
      rw [adn_tb, Nat.testBit_and, kidM_tb, mandM_tb, decide_eq_true hc, h1, decide_eq_true h2] at this
      simpa using this
    · rw [adn_tb, Nat.testBit_and, kidM_tb, mandM_tb, decide_eq_true hc]
      cases h1 : kid D f c with
      | false => rfl
      | true =>
        by_cases h2 : D 4 c = 1
        · rw [q hc h1 h2]; simp
        · rw [decide_eq_false h2]; rfl
  refine if_isB (fun c1 => ?_) (fun c1 => isB_f fun q => c1 (hz.mpr q.1))
  refine if_isB (fun c2 => isB_f fun q => ?_) (fun c2 => if_isB (fun c3 => isB_f fun q => ?_) (fun c3 => isB_t ⟨hz.mp c1, ?_, ?_⟩))
  · have := (nI_ltI (by omega) (by omega)).mp c2; omega
  · have := (nI_ltI (by omega) (by omega)).mp c3; omega
  · have : ¬ kids D f S < D 2 f := fun q => c2 ((nI_ltI (by omega) (by omega)).mpr q)
    omega
  · have : ¬ D 3 f < kids D f S := fun q => c3 ((nI_ltI (by omega) (by omega)).mpr q)
    omega
theorem cAllowsAt (h : RelC D i o C) (w : WF D) {f S : Nat} (hf : f < D 0 0) (hS : S < 2 ^ D 0 0) : isB (pX5_allowsAt C (nI f) (nI S)) (okAt D S f = true) := by
  obtain ⟨n1, n2⟩ := w.n
  have f12 : f < 12 := by omega
  have h21 := cAllowsAt21 h w hf hS
  unfold pX5_allowsAt
  simp only [ltv, gd_ix f12, nI_clp (show f < 2 ^ 31 by omega)]
  rcases Nat.eq_zero_or_pos f with h0 | h0
  · subst h0
    rw [h.p0, if_pos (by decide)]
    exact h21.congr (by rw [okAt_iff]; exact ⟨fun q => ⟨Or.inl rfl, q⟩, fun q => q.2⟩)
  · have hp := w.p h0 hf
    rw [h.p h0 hf, if_neg (nI_pos (by omega))]
    refine bd_isB (cHasB C (p31 hS (by omega)) (by omega)) (fun q => ?_) (fun q => ?_)
    · rw [if0_1]
      exact h21.congr (by rw [okAt_iff]; exact ⟨fun z => ⟨Or.inr q, z⟩, fun z => z.2⟩)
    · rw [if0_0]
      exact isB_f (by rw [okAt_iff]; exact fun z => (z.1.elim (fun z => by omega) q))
/-- a loop over features or rules that goes on while all is well -/
theorem cAllowsL (h : RelC D i o C) (w : WF D) {S : Nat} (hS : S < 2 ^ D 0 0) : ∀ n k, k ≤ D 0 0 → D 0 0 < k + n → isB (pX5_allows_12 n C (nI S) (nI k)) (∀ f, k ≤ f → f < D 0 0 → S.testBit f = true → okAt D S f = true) := by
  obtain ⟨n1, n2⟩ := w.n
  intro n
  induction n with
  | zero => intro k h1 h2; omega
  | succ n ih =>
    intro k h1 h2
    show isB (pX5_allows_12_b (pX5_allows_12 n) C (nI S) (nI k)) _
    unfold pX5_allows_12_b
    rw [h.n]
    refine if_isB (fun c1 => isB_t fun f h3 h4 => ?_) (fun c1 => ?_)
    · have := (nI_leI (by omega) (by omega)).mp c1; omega
    · have hk : k < D 0 0 := by
        rcases Nat.lt_or_ge k (D 0 0) with q | q
        · exact q
        · exact absurd ((nI_leI (by omega) (by omega)).mpr q) c1
      have go : isB (pX5_allows_39 (pX5_allows_12 n) C (nI S) (nI k)) (∀ f, k + 1 ≤ f → f < D 0 0 → S.testBit f = true → okAt D S f = true) := by
        unfold pX5_allows_39
        simp only [ltv, nI_1]
        exact ih (k + 1) hk (by omega)
      refine bd_isB (cHasB C (p31 hS (by omega)) (by omega)) (fun q => ?_) (fun q => ?_)
      · rw [if0_1]
        refine bd_isB (cAllowsAt h w hk hS) (fun z => ?_) (fun z => ?_)
        · rw [if0_1]
          refine go.congr ⟨fun a f h3 h4 h5 => ?_, fun a f h3 h4 h5 => a f (by omega) h4 h5⟩
          rcases Nat.eq_or_lt_of_le h3 with e | e
          · rw [← e]; exact z
          · exact a f e h4 h5
        · rw [if0_0]
          exact isB_f fun a => z (a k (Nat.le_refl k) hk q)
      · rw [if0_0]
        refine go.congr ⟨fun a f h3 h4 h5 => ?_, fun a f h3 h4 h5 => a f (by omega) h4 h5⟩
        rcases Nat.eq_or_lt_of_le h3 with e | e
        · rw [← e] at h5; exact absurd h5 q
        · exact a f e h4 h5
theorem treeOk_iff {S : Nat} : treeOk D S = true ↔ S.testBit 0 = true ∧ ∀ f, f < D 0 0 → S.testBit f = true → okAt D S f = true := by
  unfold treeOk
  rw [Bool.and_eq_true, allb_iff]
  refine and_congr Iff.rfl (forall_congr' fun f => forall_congr' fun hf => ?_)
  cases S.testBit f <;> simp
theorem cAllows (h : RelC D i o C) (w : WF D) {S : Nat} (hS : S < 2 ^ D 0 0) : isB (pX5_allows C (nI S)) (treeOk D S = true) := by
  obtain ⟨n1, n2⟩ := w.n
  unfold pX5_allows
  refine bd_isB (cHasB C (f := 0) (p31 hS (by omega)) (by omega)) (fun q => ?_) (fun q => ?_)
  · rw [if0_1]
    exact (cAllowsL h w hS FU 0 (Nat.zero_le _) (by unfold FU; omega)).congr (by
      rw [treeOk_iff]
      exact ⟨fun a => ⟨q, fun f h1 h2 => a f (Nat.zero_le f) h1 h2⟩, fun a f _ h1 h2 => a.2 f h1 h2⟩)
  · rw [if0_0]
    exact isB_f (by rw [treeOk_iff]; exact fun a => q a.1)
end CompTree
