/-! ===== the model's side ===== -/
/-- a loop by fuel whose answer is settled -/
theorem loopF {α : Type} {F : Nat → Nat → α} {m : Nat} {r : α} (hend : ∀ N, F (N + 1) m = r) (hstep : ∀ N k, k < m → F (N + 1) k = F N (k + 1) ∨ F (N + 1) k = r) : ∀ N k, k ≤ m → m < k + N → F N k = r := by
  intro N
  induction N with
  | zero => intro k h1 h2; omega
  | succ N ih =>
    intro k h1 h2
    rcases Nat.lt_or_ge k m with h | h
    · rcases hstep N k h with q | q
      · rw [q]; exact ih (k + 1) h (by omega)
      · exact q
    · have : k = m := by omega
      rw [this]; exact hend N
def kch (k : Nat) : Int32 := if k = 0 then 114 else if k = 1 then 101 else 97
def lch (k : Nat) : Int32 := if k = 0 then 98 else if k = 1 then 112 else 115
def RelM (D : Dt) (i o : Nat) (M : St) : Prop :=
  (M.1 0 = nI (D 0 0) ∧ M.1 1 = nI (D 0 1) ∧ M.1 2 = nI (D 0 2) ∧ M.1 3 = nI i ∧ M.1 4 = nI o) ∧
  (M.2 0 0 = -1 ∧ (∀ f, 1 ≤ f → f < D 0 0 → M.2 0 f = nI (D 1 f)) ∧ (∀ f, f < D 0 0 → M.2 1 f = nI (D 10 f)) ∧ (∀ f, f < 12 → M.2 2 f = nI (D 2 f)) ∧ (∀ f, f < D 0 0 → M.2 3 f = nI (D 3 f)) ∧ (∀ f, f < 12 → M.2 4 f = nI (D 4 f))) ∧
  (∀ r, r < D 0 1 → M.2 5 r = nI (D 9 r) ∧ M.2 6 r = kch (D 5 r) ∧ M.2 9 r = nI (D 6 r) ∧ M.2 10 r = nI (D 7 r) ∧ M.2 11 r = nI (D 8 r)) ∧
  (∀ k, k < D 0 2 → M.2 7 k = lch (D 11 k) ∧ M.2 12 k = nI (D 12 k) ∧ M.2 13 k = nI (D 13 k) ∧ M.2 14 k = nI (D 14 k))
section ModelGood
variable {D : Dt} {i o : Nat} {M : St}
theorem RelM.n (h : RelM D i o M) : M.1 0 = nI (D 0 0) := h.1.1
theorem RelM.r (h : RelM D i o M) : M.1 1 = nI (D 0 1) := h.1.2.1
theorem RelM.la (h : RelM D i o M) : M.1 2 = nI (D 0 2) := h.1.2.2.1
theorem RelM.ci (h : RelM D i o M) : M.1 3 = nI i := h.1.2.2.2.1
theorem RelM.co (h : RelM D i o M) : M.1 4 = nI o := h.1.2.2.2.2
theorem RelM.p0 (h : RelM D i o M) : M.2 0 0 = -1 := h.2.1.1
theorem RelM.p (h : RelM D i o M) {f : Nat} (h1 : 1 ≤ f) (h2 : f < D 0 0) : M.2 0 f = nI (D 1 f) := h.2.1.2.1 f h1 h2
theorem RelM.pr (h : RelM D i o M) {f : Nat} (h2 : f < D 0 0) : M.2 1 f = nI (D 10 f) := h.2.1.2.2.1 f h2
theorem RelM.lo (h : RelM D i o M) {f : Nat} (h2 : f < 12) : M.2 2 f = nI (D 2 f) := h.2.1.2.2.2.1 f h2
theorem RelM.hi (h : RelM D i o M) {f : Nat} (h2 : f < D 0 0) : M.2 3 f = nI (D 3 f) := h.2.1.2.2.2.2.1 f h2
theorem RelM.ma (h : RelM D i o M) {f : Nat} (h2 : f < 12) : M.2 4 f = nI (D 4 f) := h.2.1.2.2.2.2.2 f h2
theorem RelM.ru (h : RelM D i o M) {r : Nat} (h1 : r < D 0 1) : M.2 5 r = nI (D 9 r) ∧ M.2 6 r = kch (D 5 r) ∧ M.2 9 r = nI (D 6 r) ∧ M.2 10 r = nI (D 7 r) ∧ M.2 11 r = nI (D 8 r) := h.2.2.1 r h1
theorem RelM.ly (h : RelM D i o M) {k : Nat} (h1 : k < D 0 2) : M.2 7 k = lch (D 11 k) ∧ M.2 12 k = nI (D 12 k) ∧ M.2 13 k = nI (D 13 k) ∧ M.2 14 k = nI (D 14 k) := h.2.2.2 k h1
theorem mHas (M : St) {s f : Nat} (hs : s < 2 ^ 31) (hf : f < 32) : pX7_has M (nI s) (nI f) = some (b2i (s.testBit f)) := by
  unfold pX7_has
  rw [nI_hasE hs hf]
  cases s.testBit f with
  | true => rw [if_pos (by decide)]; rfl
  | false => rw [if_neg (by decide)]; rfl
theorem kch_r {k : Nat} : kch k = 114 ↔ k = 0 := by
  unfold kch
  split
  · exact iff_of_true rfl ‹_›
  · split
    · exact iff_of_false (by decide) ‹_›
    · exact iff_of_false (by decide) ‹_›
theorem kch_e {k : Nat} : kch k = 101 ↔ k = 1 := by
  unfold kch
  split
  · exact iff_of_false (by decide) (by omega)
  · split
    · exact iff_of_true rfl ‹_›
    · exact iff_of_false (by decide) ‹_›
theorem mKeeps (h : RelM D i o M) (w : WF D) {r S : Nat} (hr : r < D 0 1) (hS : S < 2 ^ 31) : pX7_keeps M (nI r) (nI S) = some (b2i (rok D S r)) := by
  have r20 : r < 20 := Nat.lt_of_lt_of_le hr w.r
  obtain ⟨-, h6, h7, h8, -⟩ := w.ru hr
  have n2 := w.n.2
  obtain ⟨-, e6, e9, e10, e11⟩ := h.ru hr
  unfold pX7_keeps
  simp only [gd_ix r20, nI_clp (show r < 2 ^ 31 by omega), e6, e9, e10, e11, kch_r, kch_e, bd_t (mHas M hS (show D 6 r < 32 by omega)), bd_t (mHas M hS (show D 7 r < 32 by omega)), bd_t (mHas M hS (show D 8 r < 32 by omega))]
  unfold rok
  by_cases q0 : D 5 r = 0
  · simp only [if_pos q0]
    cases S.testBit (D 6 r) <;> cases S.testBit (D 7 r) <;> rfl
  · by_cases q1 : D 5 r = 1
    · simp only [if_neg q0, if_pos q1]
      cases S.testBit (D 6 r) <;> cases S.testBit (D 7 r) <;> rfl
    · simp only [if_neg q0, if_neg q1]
      cases S.testBit (D 6 r) <;> cases S.testBit (D 7 r) <;> cases S.testBit (D 8 r) <;> rfl
end ModelGood
