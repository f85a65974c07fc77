/-! ===== what is known: told once for both sides ===== -/
def kno (D : Dt) (f ko : Nat) : Nat := ct (fun c => kid D f c && !ko.testBit c) 12
def offK (D : Dt) (f ko : Nat) : Bool := !allb (fun c => !(kid D f c && (decide (D 4 c = 1) && ko.testBit c))) 12
def treeL (D : Dt) (ki ko f : Nat) : Int32 :=
  if 0 < kids D f ki then 99
  else if ko.testBit (D 1 f) then 112
  else if decide (D 4 f = 1) && ki.testBit (D 1 f) then 109
  else if offK D f ko then 107
  else if ki.testBit (D 1 f) && decide (kids D (D 1 f) ki = D 3 (D 1 f)) then 102
  else if ki.testBit (D 1 f) && decide (kno D (D 1 f) ko = D 2 (D 1 f)) then 110
  else if kno D f ko < D 2 f then 103 else 0
def inL (x : Int32) : Bool := decide (x = 99) || (decide (x = 109) || decide (x = 110))
/-- what rule r tells of f: 0 nothing, 1 in, 2 out -/
def tellR (D : Dt) (ki ko r f : Nat) : Nat :=
  if D 5 r = 0 then (if decide (f = D 7 r) && ki.testBit (D 6 r) then 1 else if decide (f = D 6 r) && ko.testBit (D 7 r) then 2 else 0)
  else if D 5 r = 1 then (if (decide (f = D 7 r) && ki.testBit (D 6 r)) || (decide (f = D 6 r) && ki.testBit (D 7 r)) then 2 else 0)
  else if (decide (f = D 6 r) || (decide (f = D 7 r) || decide (f = D 8 r))) && ((decide (D 6 r = f) || ko.testBit (D 6 r)) && ((decide (D 7 r = f) || ko.testBit (D 7 r)) && (decide (D 8 r = f) || ko.testBit (D 8 r)))) then 1 else 0
def tellL (D : Dt) (ki ko r f : Nat) : Nat := if D 9 r = 1 then 0 else tellR D ki ko r f
/-- the first rule from r on that tells something -/
def frs (D : Dt) (ki ko f : Nat) : Nat → Nat → Option Nat
  | 0, _ => none
  | n + 1, r => if tellL D ki ko r f = 0 then frs D ki ko f n (r + 1) else some r
abbrev Kn : Type := (Nat × Nat) × ((Nat → Int32) × (Nat → Nat))
def putK (K : Kn) (f : Nat) (l : Int32) (b : Bool) : Kn := ((if b then K.1.1 ||| 2 ^ f else K.1.1, if b then K.1.2 else K.1.2 ||| 2 ^ f), (upd K.2.1 f l, K.2.2))
def byK (K : Kn) (f r : Nat) : Kn := (K.1, (K.2.1, fun j => if j = f then r else K.2.2 j))
def stepF (D : Dt) (K : Kn) (f : Nat) : Option Kn :=
  if treeL D K.1.1 K.1.2 f = 0 then
    (match frs D K.1.1 K.1.2 f (D 0 1) 0 with
    | none => none
    | some r => some (putK (byK K f r) f 114 (decide (tellL D K.1.1 K.1.2 r f = 1))))
  else some (putK K f (treeL D K.1.1 K.1.2 f) (inL (treeL D K.1.1 K.1.2 f)))
def knK (K : Kn) (f : Nat) : Bool := K.1.1.testBit f || K.1.2.testBit f
def lowF (D : Dt) (K : Kn) : Nat → Nat → Option Kn
  | 0, _ => none
  | n + 1, f => if knK K f then lowF D K n (f + 1) else
    (match stepF D K f with
    | none => lowF D K n (f + 1)
    | some K' => some K')
def low (D : Dt) (K : Kn) : Option Kn := lowF D K (D 0 0) 0
def runK (D : Dt) : Nat → Kn → Kn
  | 0, K => K
  | n + 1, K => (match low D K with
    | none => K
    | some K' => runK D n K')
def Fin (D : Dt) (K K' : Kn) : Prop := (∃ n, runK D n K = K') ∧ low D K' = none
theorem runK_none {D : Dt} {K : Kn} (h : low D K = none) : ∀ n, runK D n K = K
  | 0 => rfl
  | n + 1 => by show (match low D K with | none => K | some K' => runK D n K') = K; rw [h]
theorem runK_some {D : Dt} {K K' : Kn} (h : low D K = some K') (n : Nat) : runK D (n + 1) K = runK D n K' := by
  show (match low D K with | none => K | some K' => runK D n K') = runK D n K'
  rw [h]
theorem runK_add {D : Dt} : ∀ (m n : Nat) (K : Kn), runK D (m + n) K = runK D n (runK D m K)
  | 0, n, K => by rw [Nat.zero_add]; rfl
  | m + 1, n, K => by
    cases h : low D K with
    | none => rw [runK_none h, runK_none h, runK_none h]
    | some K' =>
      rw [show m + 1 + n = m + n + 1 by omega, runK_some h, runK_some h]
      exact runK_add m n K'
theorem Fin_uniq {D : Dt} {K A B : Kn} (ha : Fin D K A) (hb : Fin D K B) : A = B := by
  obtain ⟨⟨m, hm⟩, h1⟩ := ha
  obtain ⟨⟨n, hn⟩, h2⟩ := hb
  have e1 : runK D (m + n) K = A := by rw [runK_add, hm, runK_none h1]
  have e2 : runK D (m + n) K = B := by rw [Nat.add_comm, runK_add, hn, runK_none h2]
  rw [← e1, e2]
theorem Fin_none {D : Dt} {K : Kn} (h : low D K = none) : Fin D K K := ⟨⟨0, rfl⟩, h⟩
theorem Fin_some {D : Dt} {K K' K'' : Kn} (h : low D K = some K') (hf : Fin D K' K'') : Fin D K K'' := by
  obtain ⟨⟨n, hn⟩, h2⟩ := hf
  exact ⟨⟨n + 1, by rw [runK_some h, hn]⟩, h2⟩
/-- the scan: what stands before f is known or can't be learned -/
theorem low_at {D : Dt} {K : Kn} {f : Nat} (hf : f ≤ D 0 0) (h : ∀ g, g < f → knK K g = true ∨ stepF D K g = none) : low D K = lowF D K (D 0 0 - f) f := by
  unfold low
  have : ∀ m, m ≤ f → lowF D K (D 0 0) 0 = lowF D K (D 0 0 - m) m := by
    intro m
    induction m with
    | zero => intro _; rfl
    | succ m ih =>
      intro hm
      rw [ih (by omega)]
      obtain ⟨j, hj⟩ : ∃ j, D 0 0 - m = j + 1 := ⟨D 0 0 - m - 1, by omega⟩
      rw [hj, show D 0 0 - (m + 1) = j by omega]
      show (if knK K m then lowF D K j (m + 1) else (match stepF D K m with | none => lowF D K j (m + 1) | some K' => some K')) = _
      rcases h m (by omega) with q | q
      · rw [if_pos q]
      · rw [q]
        split <;> rfl
  exact this f (Nat.le_refl f)
theorem low_end {D : Dt} {K : Kn} (h : ∀ g, g < D 0 0 → knK K g = true ∨ stepF D K g = none) : low D K = none := by
  rw [low_at (Nat.le_refl _) h, Nat.sub_self]; rfl
theorem low_hit {D : Dt} {K K' : Kn} {f : Nat} (hf : f < D 0 0) (h : ∀ g, g < f → knK K g = true ∨ stepF D K g = none) (h1 : knK K f = false) (h2 : stepF D K f = some K') : low D K = some K' := by
  rw [low_at (Nat.le_of_lt hf) h]
  obtain ⟨j, hj⟩ : ∃ j, D 0 0 - f = j + 1 := ⟨D 0 0 - f - 1, by omega⟩
  rw [hj]
  show (if knK K f then lowF D K j (f + 1) else (match stepF D K f with | none => lowF D K j (f + 1) | some K' => some K')) = _
  rw [h1, h2]
  rfl
/-- the start: root and decisions -/
def K0 (i o : Nat) : Kn := ((1 ||| i, o), (fun f => if f = 0 then 111 else if i.testBit f || o.testBit f then 100 else 45, fun _ => 0))
def okK (D : Dt) (K : Kn) : Prop := (K.1.1 < 2 ^ D 0 0 ∧ K.1.2 < 2 ^ D 0 0) ∧ K.1.1.testBit 0 = true ∧ (∀ f, f < D 0 0 → (K.2.1 f = 45 ↔ knK K f = false)) ∧ (∀ f, f < D 0 0 → okC (K.2.1 f) ∧ K.2.1 f ≠ 32) ∧ (∀ f, f < D 0 0 → K.2.1 f = 114 → K.2.2 f < D 0 1)
theorem treeL_cases (D : Dt) (ki ko f : Nat) : treeL D ki ko f = 0 ∨ treeL D ki ko f = 99 ∨ treeL D ki ko f = 112 ∨ treeL D ki ko f = 109 ∨ treeL D ki ko f = 107 ∨ treeL D ki ko f = 102 ∨ treeL D ki ko f = 110 ∨ treeL D ki ko f = 103 := by
  unfold treeL
  repeat' split
  all_goals simp
theorem frs_lt {D : Dt} {ki ko f : Nat} : ∀ {n r x : Nat}, frs D ki ko f n r = some x → r ≤ x ∧ x < r + n ∧ tellL D ki ko x f ≠ 0
  | 0, r, x, h => by cases h
  | n + 1, r, x, h => by
    unfold frs at h
    split at h
    · have := frs_lt h; omega
    · cases h; exact ⟨Nat.le_refl r, by omega, by assumption⟩
theorem okK_put {D : Dt} {K : Kn} (hK : okK D K) {f : Nat} (hf : f < D 0 0) (l : Int32) (b : Bool) (hl : okC l ∧ l ≠ 32 ∧ l ≠ 45) (h114 : l = 114 → K.2.2 f < D 0 1) : okK D (putK K f l b) := by
  obtain ⟨⟨a1, a2⟩, a3, a4, a5, a6⟩ := hK
  have hp : 2 ^ f < 2 ^ D 0 0 := Nat.pow_lt_pow_right (by decide) hf
  have kn : ∀ g, knK (putK K f l b) g = (knK K g || decide (f = g)) := fun g => by
    unfold knK putK
    cases b
    · show (K.1.1.testBit g || (K.1.2 ||| 2 ^ f).testBit g) = _
      rw [Nat.testBit_or, tb_pow, Bool.or_assoc]
    · show ((K.1.1 ||| 2 ^ f).testBit g || K.1.2.testBit g) = _
      rw [Nat.testBit_or, tb_pow]
      cases K.1.1.testBit g <;> cases K.1.2.testBit g <;> cases decide (f = g) <;> rfl
  refine ⟨⟨?_, ?_⟩, ?_, fun g hg => ?_, fun g hg => ?_, fun g hg => ?_⟩
  · cases b
    · exact a1
    · exact Nat.or_lt_two_pow a1 hp
  · cases b
    · exact Nat.or_lt_two_pow a2 hp
    · exact a2
  · cases b
    · exact a3
    · show (K.1.1 ||| 2 ^ f).testBit 0 = true
      rw [Nat.testBit_or, a3]; rfl
  · rw [kn g]
    show upd K.2.1 f l g = 45 ↔ _
    by_cases q : g = f
    · subst q
      rw [show upd K.2.1 g l g = l from if_pos rfl]
      simp [hl.2.2]
    · rw [show upd K.2.1 f l g = K.2.1 g from if_neg q, decide_eq_false (show ¬ f = g by omega), Bool.or_false]
      exact a4 g hg
  · show okC (upd K.2.1 f l g) ∧ upd K.2.1 f l g ≠ 32
    by_cases q : g = f
    · subst q
      rw [show upd K.2.1 g l g = l from if_pos rfl]
      exact ⟨hl.1, hl.2.1⟩
    · rw [show upd K.2.1 f l g = K.2.1 g from if_neg q]
      exact a5 g hg
  · show upd K.2.1 f l g = 114 → K.2.2 g < D 0 1
    by_cases q : g = f
    · subst q
      rw [show upd K.2.1 g l g = l from if_pos rfl]
      exact h114
    · rw [show upd K.2.1 f l g = K.2.1 g from if_neg q]
      exact a6 g hg
theorem okK_by {D : Dt} {K : Kn} (hK : okK D K) {f r : Nat} (hr : r < D 0 1) : okK D (byK K f r) := by
  obtain ⟨a1, a3, a4, a5, a6⟩ := hK
  refine ⟨a1, a3, a4, a5, fun g hg h => ?_⟩
  show (if g = f then r else K.2.2 g) < D 0 1
  split
  · exact hr
  · exact a6 g hg h
theorem treeL_ok {D : Dt} {ki ko f : Nat} (h : treeL D ki ko f ≠ 0) : okC (treeL D ki ko f) ∧ treeL D ki ko f ≠ 32 ∧ treeL D ki ko f ≠ 45 ∧ treeL D ki ko f ≠ 114 ∧ vp_nar .char (treeL D ki ko f) = treeL D ki ko f := by
  rcases treeL_cases D ki ko f with q | q | q | q | q | q | q | q
  · exact absurd q h
  all_goals rw [q]; decide
theorem okK_step {D : Dt} {K K' : Kn} (hK : okK D K) {f : Nat} (hf : f < D 0 0) (h : stepF D K f = some K') : okK D K' := by
  unfold stepF at h
  split at h
  · split at h
    · cases h
    · rename_i r hr
      cases h
      have := frs_lt hr
      exact okK_put (okK_by hK (by omega)) hf 114 _ (by decide) (fun _ => by
        show (if f = f then r else K.2.2 f) < D 0 1
        rw [if_pos rfl]; omega)
  · rename_i hne
    cases h
    obtain ⟨b1, b2, b3, b4, -⟩ := treeL_ok hne
    exact okK_put hK hf _ _ ⟨b1, b2, b3⟩ (fun q => absurd q b4)
theorem okK_0 {D : Dt} (w : WF D) {i o : Nat} (hi : i < 2 ^ D 0 0) (ho : o < 2 ^ D 0 0) : okK D (K0 i o) := by
  have n1 := w.n.1
  have h1 : 1 < 2 ^ D 0 0 := Nat.lt_of_lt_of_le (by decide) (Nat.pow_le_pow_right (by decide) n1)
  refine ⟨⟨Nat.or_lt_two_pow h1 hi, ho⟩, ?_, fun f hf => ?_, fun f hf => ?_, fun f hf h => ?_⟩
  · show (1 ||| i).testBit 0 = true
    rw [Nat.testBit_or]; rfl
  · show (if f = 0 then (111 : Int32) else if i.testBit f || o.testBit f then 100 else 45) = 45 ↔ ((1 ||| i).testBit f || o.testBit f) = false
    rw [Nat.testBit_or]
    by_cases q : f = 0
    · subst q
      simp
    · rw [if_neg q]
      have : (1 : Nat).testBit f = false := by
        rw [show (1 : Nat) = 2 ^ 0 from rfl, tb_pow]; exact decide_eq_false (by omega)
      rw [this, Bool.false_or]
      cases (i.testBit f || o.testBit f) <;> simp
  · show okC (if f = 0 then (111 : Int32) else if i.testBit f || o.testBit f then 100 else 45) ∧ (if f = 0 then (111 : Int32) else if i.testBit f || o.testBit f then 100 else 45) ≠ 32
    split
    · decide
    · split <;> decide
  · have h : (if f = 0 then (111 : Int32) else if i.testBit f || o.testBit f then 100 else 45) = 114 := h
    split at h
    · exact absurd h (by decide)
    · split at h <;> exact absurd h (by decide)
