/-! ===== the class's deduction ===== -/
def clL (x : Int32) : Int32 := if x = 45 then 32 else x
def RepC (D : Dt) (K : Kn) (C : St) : Prop := (C.1 7 = nI K.1.1 ∧ C.1 8 = nI K.1.2) ∧ (∀ f, f < D 0 0 → C.2 11 f = clL (K.2.1 f)) ∧ (∀ f, f < D 0 0 → K.2.1 f = 114 → C.2 12 f = nI (K.2.2 f))
section CDed
variable {D : Dt} {i o : Nat} {C : St} {K : Kn}
theorem RelC_cong {C' : St} (h : RelC D i o C) (h1 : ∀ k, k ≤ 6 → C'.1 k = C.1 k) (h2 : ∀ k, k ≤ 10 → C'.2 k = C.2 k) : RelC D i o C' := by
  unfold RelC
  rw [h1 0 (by decide), h1 1 (by decide), h1 2 (by decide), h1 3 (by decide), h1 4 (by decide), h1 5 (by decide), h1 6 (by decide), h2 0 (by decide), h2 1 (by decide), h2 2 (by decide), h2 3 (by decide), h2 4 (by decide), h2 5 (by decide), h2 6 (by decide), h2 7 (by decide), h2 8 (by decide), h2 9 (by decide), h2 10 (by decide)]
  exact h
theorem RelC.s (h : RelC D i o C) {k : Nat} {v : Int32} (hk : 7 ≤ k) : RelC D i o (sS C k v) := RelC_cong h (fun j hj => sS_ne (by omega)) (fun j _ => rfl)
theorem RelC.a (h : RelC D i o C) {k x : Nat} {v : Int32} (hk : 11 ≤ k) : RelC D i o (sA C k x v) := RelC_cong h (fun j _ => rfl) (fun j hj => sA_ne (by omega))
theorem ct_eq0 {p : Nat → Bool} {n : Nat} : ct p n = 0 ↔ ∀ k, k < n → p k = false := by
  constructor
  · intro h k hk
    cases q : p k with
    | false => rfl
    | true =>
      have e : n = k + 1 + (n - (k + 1)) := by omega
      rw [e, ct_add, ct_s, q] at h
      simp at h
  · exact fun h => ct_zero h
theorem kidsAnd (D : Dt) (f X : Nat) : kidM D f &&& X = 0 ↔ kids D f X = 0 := by
  rw [← kidsE, ct_eq0, zero_tb (and_lt (kidM_lt D f))]
theorem offAnd {f ko : Nat} : (kidM D f &&& mandM D) &&& ko = 0 ↔ offK D f ko = false := by
  have h12 : (kidM D f &&& mandM D) &&& ko < 2 ^ 12 := and_lt (and_lt (kidM_lt D f))
  rw [zero_tb h12]
  unfold offK
  have e : (!allb (fun c => !(kid D f c && (decide (D 4 c = 1) && ko.testBit c))) 12) = false ↔ allb (fun c => !(kid D f c && (decide (D 4 c = 1) && ko.testBit c))) 12 = true := by
    cases allb (fun c => !(kid D f c && (decide (D 4 c = 1) && ko.testBit c))) 12 <;> simp
  rw [e, allb_iff]
  refine forall_congr' fun c => forall_congr' fun hc => ?_
  rw [Nat.testBit_and, Nat.testBit_and, kidM_tb, mandM_tb, decide_eq_true hc]
  cases kid D f c <;> cases decide (D 4 c = 1) <;> cases ko.testBit c <;> simp
theorem knoE (D : Dt) (f X : Nat) : ct (fun i => (adn (kidM D f) X).testBit i) 12 = kno D f X := by
  unfold kno
  refine ct_cong fun k hk => ?_
  rw [adn_tb, kidM_tb, decide_eq_true hk, Bool.true_and]
theorem kno_le {f X : Nat} : kno D f X ≤ 12 := ct_le _ _
def kinL (D : Dt) (ki ko f : Nat) : Int32 :=
  if 0 < kids D f ki then 99
  else if ko.testBit (D 1 f) then 112
  else if decide (D 4 f = 1) && ki.testBit (D 1 f) then 109
  else if offK D f ko then 107 else 32
def grpL (D : Dt) (ki ko f : Nat) : Int32 :=
  if ki.testBit (D 1 f) && decide (kids D (D 1 f) ki = D 3 (D 1 f)) then 102
  else if ki.testBit (D 1 f) && decide (kno D (D 1 f) ko = D 2 (D 1 f)) then 110
  else if kno D f ko < D 2 f then 103 else 32
theorem kin32 {ki ko f : Nat} (h : kinL D ki ko f = 32) : treeL D ki ko f = (if grpL D ki ko f = 32 then 0 else grpL D ki ko f) := by
  unfold kinL at h
  unfold treeL grpL
  split at h
  · exact absurd h (by decide)
  · rename_i h1
    split at h
    · exact absurd h (by decide)
    · rename_i h2
      split at h
      · exact absurd h (by decide)
      · rename_i h3
        split at h
        · exact absurd h (by decide)
        · rename_i h4
          rw [if_neg h1, if_neg h2, if_neg h3, if_neg h4]
          split
          · rfl
          · split
            · rfl
            · split <;> rfl
theorem kin_ne {ki ko f : Nat} (h : kinL D ki ko f ≠ 32) : treeL D ki ko f = kinL D ki ko f := by
  unfold kinL at h ⊢
  unfold treeL
  split
  · rfl
  · rename_i h1
    split
    · rfl
    · rename_i h2
      split
      · rfl
      · rename_i h3
        split
        · rfl
        · rename_i h4
          rw [if_neg h1, if_neg h2, if_neg h3, if_neg h4] at h
          exact absurd rfl h
theorem cKnows (hr : RepC D K C) (w : WF D) (hK : okK D K) {f : Nat} (hf : f < D 0 0) : pX0_knows C (nI f) = some (b2i (knK K f)) := by
  obtain ⟨n1, n2⟩ := w.n
  have hlt : K.1.1 ||| K.1.2 < 2 ^ 31 := Nat.lt_of_lt_of_le (p12 (Nat.or_lt_two_pow hK.1.1 hK.1.2) n2) (by decide)
  unfold pX0_knows
  rw [hr.1.1, hr.1.2, nI_lor, bd_t (cHas C hlt (by omega)), gd_t (b2i_ok _), Nat.testBit_or]
  rfl
theorem cKin (h : RelC D i o C) (hr : RepC D K C) (w : WF D) (hK : okK D K) {f : Nat} (h0 : 1 ≤ f) (hf : f < D 0 0) : pX0_letterByKin C (nI f) = some (kinL D K.1.1 K.1.2 f) := by
  obtain ⟨n1, n2⟩ := w.n
  have f12 : f < 12 := by omega
  have hp := w.p h0 hf
  have q31 : ∀ {x : Nat}, x < 2 ^ D 0 0 → x < 2 ^ 31 := fun hx => Nat.lt_of_lt_of_le (p12 hx n2) (by decide)
  have hm31 : mandM D < 2 ^ 31 := Nat.lt_of_lt_of_le (mandM_lt D) (by decide)
  have ha31 : kidM D f &&& K.1.1 < 2 ^ 31 := Nat.lt_of_lt_of_le (and_lt (kidM_lt D f)) (by decide)
  have hb31 : (kidM D f &&& mandM D) &&& K.1.2 < 2 ^ 31 := Nat.lt_of_lt_of_le (and_lt (and_lt (kidM_lt D f))) (by decide)
  unfold pX0_letterByKin pX0_letterByKin_47 pX0_letterByKin_78
  simp only [ltv, gd_ix f12, nI_clp (show f < 2 ^ 31 by omega), h.k f12, h.p h0 hf, hr.1.1, hr.1.2, h.md, nI_land, nI0 ha31, nI0 hb31, if_neg (show ¬ nI (D 1 f) < 0 from nI_pos (by omega)), bd_t (cHas C (q31 hK.1.1) (show D 1 f < 32 by omega)), bd_t (cHas C (q31 hK.1.2) (show D 1 f < 32 by omega)), bd_t (cHas C hm31 (show f < 32 by omega)), mandM_tb, decide_eq_true f12, Bool.true_and, kidsAnd, offAnd]
  unfold kinL
  by_cases a : kids D f K.1.1 = 0
  · rw [if_pos a, if_neg (show ¬ 0 < kids D f K.1.1 by omega)]
    cases K.1.2.testBit (D 1 f) <;> cases K.1.1.testBit (D 1 f) <;> cases decide (D 4 f = 1) <;> cases offK D f K.1.2 <;> rfl
  · rw [if_neg a, if_pos (show 0 < kids D f K.1.1 by omega)]
theorem cGrp (h : RelC D i o C) (hr : RepC D K C) (w : WF D) (hK : okK D K) {f : Nat} (h0 : 1 ≤ f) (hf : f < D 0 0) : pX0_letterByGroup C (nI f) = some (grpL D K.1.1 K.1.2 f) := by
  obtain ⟨n1, n2⟩ := w.n
  have f12 : f < 12 := by omega
  have hp := w.p h0 hf
  have p12' : D 1 f < 12 := by omega
  have g1 := w.g f12
  have g2 := w.g p12'
  have q31 : ∀ {x : Nat}, x < 2 ^ D 0 0 → x < 2 ^ 31 := fun hx => Nat.lt_of_lt_of_le (p12 hx n2) (by decide)
  have b1 : pJ6_bitCount_0f7a4 (nI (kidM D (D 1 f) &&& K.1.1)) = some (nI (kids D (D 1 f) K.1.1)) := by
    rw [bitCnt (and_lt (kidM_lt D _)), kidsE]
  have b2 : ∀ g, pJ6_bitCount_0f7a4 (nI (adn (kidM D g) K.1.2)) = some (nI (kno D g K.1.2)) := fun g => by
    rw [bitCnt (adn_lt (kidM_lt D _)), knoE]
  have k1 := kids_le (D := D) (f := D 1 f) (S := K.1.1)
  have k2 := kno_le (D := D) (f := D 1 f) (X := K.1.2)
  have k3 := kno_le (D := D) (f := f) (X := K.1.2)
  unfold pX0_letterByGroup pX0_letterByGroup_76
  simp only [ltv, gd_ix f12, gd_ix p12', nI_clp (show f < 2 ^ 31 by omega), nI_clp (show D 1 f < 2 ^ 31 by omega), h.k f12, h.k p12', h.lo f12, h.lo p12', h.hi (show D 1 f < D 0 0 by omega), h.p h0 hf, hr.1.1, hr.1.2, nI_land, nI_adn, if_neg (show ¬ nI (D 1 f) < 0 from nI_pos (by omega)), bd_t (cHas C (q31 hK.1.1) (show D 1 f < 32 by omega)), bd_t b1, bd_t (b2 _), nI_eq (show kids D (D 1 f) K.1.1 < 2 ^ 31 by omega) (show D 3 (D 1 f) < 2 ^ 31 by omega), nI_eq (show kno D (D 1 f) K.1.2 < 2 ^ 31 by omega) (show D 2 (D 1 f) < 2 ^ 31 by omega), nI_leI (show D 2 f < 2 ^ 31 by omega) (show kno D f K.1.2 < 2 ^ 31 by omega)]
  unfold grpL
  have tail : (if D 2 f ≤ kno D f K.1.2 then some (32 : Int32) else some 103) = some (if kno D f K.1.2 < D 2 f then 103 else 32) := by
    by_cases q : kno D f K.1.2 < D 2 f
    · rw [if_pos q, if_neg (by omega)]
    · rw [if_neg q, if_pos (by omega)]
  rw [tail]
  cases K.1.1.testBit (D 1 f) with
  | false => rfl
  | true =>
    rw [if_neg (show ¬ b2i true = 0 by decide), Bool.true_and, Bool.true_and]
    by_cases a : kids D (D 1 f) K.1.1 = D 3 (D 1 f)
    · rw [if_pos a, decide_eq_true a]; rfl
    · rw [if_neg a, decide_eq_false a]
      by_cases b : kno D (D 1 f) K.1.2 = D 2 (D 1 f)
      · rw [if_pos b, decide_eq_true b]; rfl
      · rw [if_neg b, decide_eq_false b]; rfl
/-- what learning leaves -/
theorem cLearn (h : RelC D i o C) (hr : RepC D K C) (w : WF D) {f : Nat} (hf : f < D 0 0) {l : Int32} {x : Int32} {b : Bool} (hx : x = b2i b) (hl : vp_nar .char l = l) (h45 : l ≠ 45) (h114 : l = 114 → C.2 12 f = nI (K.2.2 f)) : ∃ C', pX0_learn C (nI f) l x = some C' ∧ RelC D i o C' ∧ RepC D (putK K f l b) C' ∧ C'.1 9 = C.1 9 ∧ C'.2 13 = C.2 13 := by
  obtain ⟨n1, n2⟩ := w.n
  have f12 : f < 12 := by omega
  subst hx
  have hA : ∀ g, g < D 0 0 → upd (C.2 11) f l g = clL (upd K.2.1 f l g) := fun g hg => by
    by_cases q : g = f
    · subst q
      rw [show upd (C.2 11) g l g = l from if_pos rfl, show upd K.2.1 g l g = l from if_pos rfl]
      unfold clL; rw [if_neg h45]
    · rw [show upd (C.2 11) f l g = C.2 11 g from if_neg q, show upd K.2.1 f l g = K.2.1 g from if_neg q]
      exact hr.2.1 g hg
  have hB : ∀ g, g < D 0 0 → upd K.2.1 f l g = 114 → C.2 12 g = nI (K.2.2 g) := fun g hg hq => by
    by_cases q : g = f
    · subst q
      rw [show upd K.2.1 g l g = l from if_pos rfl] at hq
      exact h114 hq
    · rw [show upd K.2.1 f l g = K.2.1 g from if_neg q] at hq
      exact hr.2.2 g hg hq
  unfold pX0_learn
  simp only [ltv, gd_ix f12, nI_clp (show f < 2 ^ 31 by omega), hl, nI_sh f (by omega)]
  cases b with
  | false =>
    rw [if_pos (show b2i false = 0 by decide)]
    refine ⟨_, rfl, (h.a (by decide)).s (by decide), ⟨⟨?_, ?_⟩, ?_, ?_⟩, ?_, ?_⟩
    · show (sS (sA C 11 f l) 8 _).1 7 = _
      rw [sS_ne (by decide)]; exact hr.1.1
    · show (sS (sA C 11 f l) 8 _).1 8 = nI (K.1.2 ||| 2 ^ f)
      rw [sS_eq, ← nI_lor, ← hr.1.2]; rfl
    · intro g hg
      show (sA C 11 f l).2 11 g = _
      rw [sA_eq]; exact hA g hg
    · intro g hg hq
      show (sA C 11 f l).2 12 g = _
      rw [sA_ne (by decide)]; exact hB g hg hq
    · rw [sS_ne (by decide)]; rfl
    · show (sA C 11 f l).2 13 = _
      rw [sA_ne (by decide)]
  | true =>
    rw [if_neg (show ¬ b2i true = 0 by decide)]
    refine ⟨_, rfl, (h.a (by decide)).s (by decide), ⟨⟨?_, ?_⟩, ?_, ?_⟩, ?_, ?_⟩
    · show (sS (sA C 11 f l) 7 _).1 7 = nI (K.1.1 ||| 2 ^ f)
      rw [sS_eq, ← nI_lor, ← hr.1.1]; rfl
    · show (sS (sA C 11 f l) 7 _).1 8 = _
      rw [sS_ne (by decide)]; exact hr.1.2
    · intro g hg
      show (sA C 11 f l).2 11 g = _
      rw [sA_eq]; exact hA g hg
    · intro g hg hq
      show (sA C 11 f l).2 12 g = _
      rw [sA_ne (by decide)]; exact hB g hg hq
    · rw [sS_ne (by decide)]; rfl
    · show (sA C 11 f l).2 13 = _
      rw [sA_ne (by decide)]
end CDed
