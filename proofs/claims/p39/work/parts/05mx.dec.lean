section Dec2
variable {D : Dt} {i o : Nat} {C M : St} {K : Kn}
theorem cmpl_weak {i' o' S : Nat} (h1 : ∀ j, i'.testBit j = true → i.testBit j = true) (h2 : ∀ j, o'.testBit j = true → o.testBit j = true) (h : cmpl D i o S = true) : cmpl D i' o' S = true := by
  obtain ⟨a, b⟩ := cmpl_sub h
  refine cmpl_iff.mpr ⟨zero_all.mpr fun j => ?_, zero_all.mpr fun j => ?_, cmpl_good h⟩
  · rw [adn_tb]
    cases q : i'.testBit j with
    | false => rfl
    | true => rw [a j (h1 j q)]; rfl
  · rw [Nat.testBit_and]
    cases q : o'.testBit j with
    | false => rfl
    | true => rw [b j (h2 j q)]; rfl
theorem adn_sub {x y : Nat} : ∀ j, (adn x y).testBit j = true → x.testBit j = true := fun j h => by
  rw [adn_tb] at h
  cases q : x.testBit j with
  | true => rfl
  | false => rw [q] at h; cases h
theorem cBack (h : RelC D i o C) (x : Nat) : pX6_takeBack C (nI x) = some (sS (sS C 0 (nI (adn i x))) 1 (nI (adn o x))) := by
  unfold pX6_takeBack
  have e : ∀ v, (sS C 0 v).1 1 = nI o := fun v => by rw [sS_ne (by decide)]; exact h.co
  simp only [ltv, h.ci, e, nI_adn]
def cdRe (k : Nat) : Nat := if k = 1 then 1 else if k = 3 then 2 else 0
theorem aRetract (hI : InvD D i o C M) (x : Int32) : Agr cdRe (pX6_retract C x) (pX7_retract M x) := by
  have hI0 := hI
  obtain ⟨w, ⟨hi, ho⟩, hex, hC, hM⟩ := hI
  obtain ⟨n1, n2⟩ := w.n
  have q31 : ∀ {x : Nat}, x < 2 ^ D 0 0 → x < 2 ^ 31 := fun hx => Nat.lt_of_lt_of_le (p12 hx n2) (by decide)
  rcases feat w x with ⟨f, hf, rfl, f1, f2⟩ | ⟨f1, f2⟩
  · have isd : ∀ M, RelM D i o M → pX7_isDecided M (nI f) = some (b2i ((i ||| o).testBit f)) := fun M h => by
      unfold pX7_isDecided
      rw [h.ci, h.co, nI_lor, bd_t (mHas M (q31 (Nat.or_lt_two_pow hi ho)) (by omega)), gd_t (b2i_ok _)]
    have h1 := hM.thr 0
    unfold pX6_retract pX7_retract pX7_retract_27
    rw [tb_t (f1 C i o hC), hC.ci, hC.co, nI_lor, bd_t (cHas C (q31 (Nat.or_lt_two_pow hi ho)) (by omega)), bd_t (f2 M i o hM), bd_t (mT0 M 1), if_pos rfl, bd_t (isd _ h1)]
    cases y : (i ||| o).testBit f with
    | false =>
      rw [if_pos (show b2i false = 0 from rfl), if_pos (show b2i false = 0 from rfl), bd_t (mT1 (sS M 7 0) 2), if_neg (show ¬ (1 : Int32) = 0 by decide)]
      exact ⟨_, _, _, rfl, (hI0.m (h1.thr 2)).inv, Or.inl ⟨3, rfl, by decide, sS_eq⟩⟩
    | true =>
      have h2 := h1.thr 0
      rw [if_neg (show ¬ b2i true = 0 by decide), if_neg (show ¬ b2i true = 0 by decide), bd_t (mT0 (sS M 7 0) 2), if_pos rfl, bd_t (cHas C (q31 hi) (by omega))]
      have ei : (sS (sS M 7 0) 7 0).1 3 = nI i := h2.ci
      have eo : ∀ v, (sS (sS (sS M 7 0) 7 0) 3 v).1 4 = nI o := fun v => by rw [sS_ne (by decide)]; exact h2.co
      show Agr cdRe _ (bd (pX7_has (sS (sS M 7 0) 7 0) ((sS (sS M 7 0) 7 0).1 3) (nI f)) _)
      rw [ei, bd_t (mHas _ (q31 hi) (show f < 32 by omega))]
      unfold pX6_retract_49 pX7_retract_55
      rw [nI_sh f (by omega), bd_t (cBack hC (2 ^ f)), bd_t (cBack hC (2 ^ f))]
      simp only [ltv, ei, eo, nI_adn]
      have hs : ∃ S, S < 2 ^ D 0 0 ∧ cmpl D (adn i (2 ^ f)) (adn o (2 ^ f)) S = true := by
        obtain ⟨S, s1, s2⟩ := hex
        exact ⟨S, s1, cmpl_weak adn_sub adn_sub s2⟩
      have fin : Inv (sS (sS C 0 (nI (adn i (2 ^ f)))) 1 (nI (adn o (2 ^ f)))) (sS (sS (sS (sS M 7 0) 7 0) 3 (nI (adn i (2 ^ f)))) 4 (nI (adn o (2 ^ f)))) := ⟨D, _, _, w, ⟨adn_lt hi, adn_lt ho⟩, hs, (hC.setI _).setO _, (h2.setI _).setO _⟩
      have t7 : (sS (sS (sS (sS M 7 0) 7 0) 3 (nI (adn i (2 ^ f)))) 4 (nI (adn o (2 ^ f)))).1 7 = 0 := by
        rw [sS_ne (by decide), sS_ne (by decide)]; exact sS_eq
      cases i.testBit f with
      | true =>
        rw [if_neg (show ¬ b2i true = 0 by decide), if_neg (show ¬ b2i true = 0 by decide), gd_t (show okC 99 by decide), gd_t (show okC 99 by decide)]
        exact ⟨_, _, _, rfl, fin, Or.inr ⟨rfl, t7⟩⟩
      | false =>
        rw [if_pos (show b2i false = 0 from rfl), if_pos (show b2i false = 0 from rfl), gd_t (show okC 114 by decide), gd_t (show okC 114 by decide)]
        exact ⟨_, _, _, rfl, fin, Or.inr ⟨rfl, t7⟩⟩
  · unfold pX6_retract pX7_retract
    rw [tb_e (f1 C i o hC), bd_t (f2 M i o hM), bd_t (mT1 M 1), if_neg (show ¬ (1 : Int32) = 0 by decide)]
    exact ⟨_, _, _, rfl, (hI0.m (hM.thr 1)).inv, Or.inl ⟨1, rfl, by decide, sS_eq⟩⟩
theorem aRetractAll (hI : InvD D i o C M) : AgrP (pX6_retractAll C) (pX7_retractAll M) := by
  have hI0 := hI
  obtain ⟨w, ⟨hi, ho⟩, hex, hC, hM⟩ := hI
  obtain ⟨n1, n2⟩ := w.n
  have h1 := hM.thr 0
  have e1 : adn i (i ||| o) = 0 := zero_all.mpr fun j => by rw [adn_tb, Nat.testBit_or]; cases i.testBit j <;> rfl
  have e2 : adn o (i ||| o) = 0 := zero_all.mpr fun j => by rw [adn_tb, Nat.testBit_or]; cases i.testBit j <;> cases o.testBit j <;> rfl
  have bp := bitP (p12 (Nat.or_lt_two_pow hi ho) n2)
  have ei : (sS M 7 0).1 3 = nI i := h1.ci
  have eo : (sS M 7 0).1 4 = nI o := h1.co
  refine ⟨nI (pop (i ||| o)), sS (sS C 0 (nI 0)) 1 (nI 0), sS (sS (sS M 7 0) 3 (nI 0)) 4 (nI 0), ?_, ?_, D, 0, 0, w, ⟨Nat.two_pow_pos _, Nat.two_pow_pos _⟩, ?_, (hC.setI 0).setO 0, (h1.setI 0).setO 0⟩
  · unfold pX6_retractAll
    rw [hC.ci, hC.co, nI_lor]
    simp only [ltv]
    rw [bd_t (cBack hC (i ||| o)), e1, e2, bd_t bp]
  · unfold pX7_retractAll
    simp only [ltv]
    rw [ei, eo, nI_lor, bd_t bp]
    rfl
  · obtain ⟨S, s1, s2⟩ := hex
    exact ⟨S, s1, cmpl_weak (fun j q => by rw [Nat.zero_testBit] at q; cases q) (fun j q => by rw [Nat.zero_testBit] at q; cases q) s2⟩
theorem wrTo_ex {f : Nat} {b : Bool} {x : Nat} : ∀ m, wrTo D i o f b m = some x → ∃ S, S < m ∧ wish D f b S = true ∧ x = wr i o S
  | 0, h => by cases h
  | m + 1, h => by
    have e : wrTo D i o f b (m + 1) = if wish D f b m then smN (wrTo D i o f b m) (wr i o m) else wrTo D i o f b m := rfl
    rw [e] at h
    have old : wrTo D i o f b m = some x → ∃ S, S < m + 1 ∧ wish D f b S = true ∧ x = wr i o S := fun q => by
      obtain ⟨S, s1, s2⟩ := wrTo_ex m q
      exact ⟨S, by omega, s2⟩
    cases hw : wish D f b m with
    | false => rw [hw, if_neg (by decide)] at h; exact old h
    | true =>
      rw [hw, if_pos rfl] at h
      cases q : wrTo D i o f b m with
      | none => rw [q] at h; cases h; exact ⟨m, by omega, hw, rfl⟩
      | some y =>
        rw [q, smN_s] at h
        split at h
        · cases h; exact ⟨m, by omega, hw, rfl⟩
        · cases h; exact old q
def cdFo (k : Nat) : Nat := if k = 1 then 1 else if k = 2 then 2 else if k = 5 then 3 else 0
theorem aForce (hI : InvD D i o C M) (x : Int32) (b : Bool) : Agr cdFo (pX6_force C x (b2i b)) (pX7_force M x (b2i b)) := by
  have hI0 := hI
  obtain ⟨w, ⟨hi, ho⟩, hex, hC, hM⟩ := hI
  obtain ⟨n1, n2⟩ := w.n
  rcases feat w x with ⟨f, hf, rfl, f1, f2⟩ | ⟨f1, f2⟩
  · have hpf : 2 ^ f < 2 ^ D 0 0 := Nat.pow_lt_pow_right (by decide) hf
    have h1 := hM.thr 0
    unfold pX6_force pX7_force pX6_checkNotRoot
    rw [tb_t (f1 C i o hC), bd_t (f2 M i o hM), bd_t (mT0 M 1), if_pos rfl]
    by_cases z : f = 0
    · have z' : nI f = 0 := by rw [z]; rfl
      rw [if_pos z', if_pos z', tb_e rfl]
      unfold pX7_force_23
      rw [bd_t (mT1 (sS M 7 0) 2), if_neg (show ¬ (1 : Int32) = 0 by decide)]
      exact ⟨_, _, _, rfl, (hI0.m (h1.thr 2)).inv, Or.inl ⟨2, rfl, by decide, sS_eq⟩⟩
    · have z' : ¬ nI f = 0 := fun q => by have := (nI0 (by omega)).mp q; omega
      have h2 := h1.thr 0
      have ca := cAgainst hC w hi ho hf b
      have mn := mNoWish h2 w hi ho hf b 3
      rw [if_neg z', if_neg z', tb_t rfl]
      unfold pX7_force_23
      rw [bd_t (mT0 (sS M 7 0) 2), if_pos rfl]
      cases q : wrs D i o f b with
      | none =>
        rw [q] at ca mn
        rw [tb_e ca, bd_t (show pX7_isNoWish (sS (sS M 7 0) 7 0) (nI f) (b2i b) 3 = _ from mn), if_neg (show ¬ (1 : Int32) = 0 by decide)]
        exact ⟨_, _, _, rfl, (hI0.m (h2.thr 3)).inv, Or.inl ⟨5, rfl, by decide, sS_eq⟩⟩
      | some y =>
        rw [q] at ca mn
        obtain ⟨S, s1, s2, s3⟩ := wrTo_ex _ q
        have hy := wrTo_lt hi ho _ y q
        have hy12 := p12 hy n2
        have h3 := h2.thr 0
        have mw := mWrong h3 w hi ho hf b
        rw [q] at mw
        rw [tb_t ca, bd_t (cBack hC y), bd_t (show pX7_isNoWish (sS (sS M 7 0) 7 0) (nI f) (b2i b) 3 = _ from mn), if_pos rfl, bd_t (show pX7_wrong (sS (sS (sS M 7 0) 7 0) 7 0) (nI f) (b2i b) = _ from mw)]
        have ei : (sS (sS (sS M 7 0) 7 0) 7 0).1 3 = nI i := h3.ci
        have eo : ∀ v, (sS (sS (sS (sS M 7 0) 7 0) 7 0) 3 v).1 4 = nI o := fun v => by rw [sS_ne (by decide)]; exact h3.co
        have t7 : (sS (sS (sS M 7 0) 7 0) 7 0).1 7 = 0 := sS_eq
        generalize sS (sS (sS M 7 0) 7 0) 7 0 = N at h3 ei eo t7 ⊢
        unfold pX6_force_53 pX7_force_89 pX7_force_109
        simp only [ltv, show oI (some y) = nI y from rfl, ei, eo, nI_adn, nI_sh f (show f < 31 by omega), bd_t (bitP hy12)]
        have c0 : (sS (sS C 0 (nI (adn i y))) 1 (nI (adn o y))).1 0 = nI (adn i y) := by rw [sS_ne (by decide)]; exact sS_eq
        have c1 : (sS (sS C 0 (nI (adn i y))) 1 (nI (adn o y))).1 1 = nI (adn o y) := sS_eq
        have m3 : (sS (sS N 3 (nI (adn i y))) 4 (nI (adn o y))).1 3 = nI (adn i y) := by rw [sS_ne (by decide)]; exact sS_eq
        have m4 : ∀ v, (sS (sS (sS N 3 (nI (adn i y))) 4 (nI (adn o y))) 3 v).1 4 = nI (adn o y) := fun v => by rw [sS_ne (by decide)]; exact sS_eq
        simp only [c0, c1, m3, m4, nI_lor, or0I]
        have hC2 := (hC.setI (adn i y)).setO (adn o y)
        have hM2 := (h3.setI (adn i y)).setO (adn o y)
        have hg : good D S = true ∧ S.testBit f = b := by
          unfold wish at s2
          rw [Bool.and_eq_true, beq_iff_eq] at s2; exact s2
        have bi : ∀ j, (adn i y).testBit j = true → S.testBit j = true := fun j z => by
          rw [adn_tb, s3] at z
          unfold wr at z
          rw [Nat.testBit_or, adn_tb] at z
          cases a : S.testBit j with
          | true => rfl
          | false => rw [a] at z; cases c : i.testBit j <;> rw [c] at z <;> simp at z
        have bo : ∀ j, (adn o y).testBit j = true → S.testBit j = false := fun j z => by
          rw [adn_tb, s3] at z
          unfold wr at z
          rw [Nat.testBit_or, Nat.testBit_and] at z
          cases a : S.testBit j with
          | false => rfl
          | true => rw [a] at z; cases c : o.testBit j <;> rw [c] at z <;> simp at z
        have mk : ∀ i' o', (∀ j, i'.testBit j = true → S.testBit j = true) → (∀ j, o'.testBit j = true → S.testBit j = false) → cmpl D i' o' S = true := fun i' o' a c => by
          refine cmpl_iff.mpr ⟨zero_all.mpr fun j => ?_, zero_all.mpr fun j => ?_, hg.1⟩
          · rw [adn_tb]
            cases z : i'.testBit j with
            | false => rfl
            | true => rw [a j z]; rfl
          · rw [Nat.testBit_and]
            cases z : o'.testBit j with
            | false => rfl
            | true => rw [c j z]; rfl
        have orb : ∀ (x : Nat) j, (x ||| 2 ^ f).testBit j = true → x.testBit j = true ∨ j = f := fun x j z => by
          rw [Nat.testBit_or, tb_pow, Bool.or_eq_true, decide_eq_true_iff] at z
          rcases z with z | z
          · exact Or.inl z
          · exact Or.inr z.symm
        cases b with
        | false =>
          rw [if_pos (show b2i false = 0 from rfl), if_pos (show b2i false = 0 from rfl), if_pos (show b2i false = 0 from rfl)]
          refine ⟨_, _, _, rfl, ⟨D, adn i y, adn o y ||| 2 ^ f, w, ⟨adn_lt hi, Nat.or_lt_two_pow (adn_lt ho) hpf⟩, ⟨S, s1, mk _ _ bi (fun j z => ?_)⟩, hC2.setO _, (hM2.setI _).setO _⟩, Or.inr ⟨rfl, ?_⟩⟩
          · rcases orb _ j z with z | z
            · exact bo j z
            · rw [z]; exact hg.2
          · rw [sS_ne (by decide), sS_ne (by decide), sS_ne (by decide), sS_ne (by decide)]; exact t7
        | true =>
          rw [if_neg (show ¬ b2i true = 0 by decide), if_neg (show ¬ b2i true = 0 by decide), if_neg (show ¬ b2i true = 0 by decide)]
          refine ⟨_, _, _, rfl, ⟨D, adn i y ||| 2 ^ f, adn o y, w, ⟨Nat.or_lt_two_pow (adn_lt hi) hpf, adn_lt ho⟩, ⟨S, s1, mk _ _ (fun j z => ?_) bo⟩, hC2.setI _, (hM2.setI _).setO _⟩, Or.inr ⟨rfl, ?_⟩⟩
          · rcases orb _ j z with z | z
            · exact bi j z
            · rw [z]; exact hg.2
          · rw [sS_ne (by decide), sS_ne (by decide), sS_ne (by decide), sS_ne (by decide)]; exact t7
  · unfold pX6_force pX7_force
    rw [tb_e (f1 C i o hC), bd_t (f2 M i o hM), bd_t (mT1 M 1), if_neg (show ¬ (1 : Int32) = 0 by decide)]
    exact ⟨_, _, _, rfl, (hI0.m (hM.thr 1)).inv, Or.inl ⟨1, rfl, by decide, sS_eq⟩⟩
/-- completing: what the model's loop adds to a set -/
def addT (p : Nat → Bool) (x : Nat) : Nat → Nat
  | 0 => x
  | k + 1 => if p k then addT p x k ||| 2 ^ k else addT p x k
theorem addT_s (p : Nat → Bool) (x k : Nat) : addT p x (k + 1) = if p k then addT p x k ||| 2 ^ k else addT p x k := rfl
theorem addT_tb {p : Nat → Bool} {x : Nat} (j : Nat) : ∀ k, (addT p x k).testBit j = (x.testBit j || (decide (j < k) && p j))
  | 0 => by rw [decide_eq_false (Nat.not_lt_zero j), Bool.false_and, Bool.or_false]; rfl
  | k + 1 => by
    rw [addT_s]
    by_cases z : k = j
    · subst z
      have ih := addT_tb (p := p) (x := x) k k
      rw [decide_eq_false (Nat.lt_irrefl k), Bool.false_and, Bool.or_false] at ih
      rw [decide_eq_true (show k < k + 1 by omega), Bool.true_and]
      cases q : p k with
      | true => rw [if_pos rfl, Nat.testBit_or, tb_pow, ih, decide_eq_true rfl]
      | false => rw [if_neg (by decide), ih, Bool.or_false]
    · have ih := addT_tb (p := p) (x := x) j k
      rw [show decide (j < k + 1) = decide (j < k) from decide_eq_decide.mpr (by omega), ← ih]
      split
      · rw [Nat.testBit_or, tb_pow, decide_eq_false z, Bool.or_false]
      · rfl
theorem addT_lt {p : Nat → Bool} {x n : Nat} (hx : x < 2 ^ n) : ∀ k, k ≤ n → addT p x k < 2 ^ n
  | 0, _ => hx
  | k + 1, h => by
    rw [addT_s]
    have ih := addT_lt (p := p) hx k (by omega)
    split
    · exact Nat.or_lt_two_pow ih (Nat.pow_lt_pow_right (by decide) (by omega))
    · exact ih
theorem mFill (w : WF D) {S : Nat} (hS : S < 2 ^ D 0 0) (hM : RelM D i o M) : ∃ M', pX7_complete_7 FU M (nI S) 1 = some (priceI D S, M') ∧ RelM D (addT (fun j => decide (1 ≤ j) && S.testBit j) i (D 0 0)) (addT (fun j => decide (1 ≤ j) && !S.testBit j) o (D 0 0)) M' ∧ M'.1 7 = M.1 7 := by
  obtain ⟨n1, n2⟩ := w.n
  have hS31 : S < 2 ^ 31 := Nat.lt_of_lt_of_le (p12 hS n2) (by decide)
  have key : ∀ N k (E : St), 1 ≤ k → k ≤ D 0 0 → D 0 0 < k + N → RelM D (addT (fun j => decide (1 ≤ j) && S.testBit j) i k) (addT (fun j => decide (1 ≤ j) && !S.testBit j) o k) E → E.1 7 = M.1 7 → ∃ M', pX7_complete_7 N E (nI S) (nI k) = some (priceI D S, M') ∧ RelM D (addT (fun j => decide (1 ≤ j) && S.testBit j) i (D 0 0)) (addT (fun j => decide (1 ≤ j) && !S.testBit j) o (D 0 0)) M' ∧ M'.1 7 = M.1 7 := by
    intro N
    induction N with
    | zero => intro k E h0 h1 h2; omega
    | succ N ih =>
      intro k E h0 h1 h2 hE h7
      have e0 : pX7_complete_7 (N + 1) E (nI S) (nI k) = pX7_complete_7_b (pX7_complete_7 N) E (nI S) (nI k) := rfl
      rw [e0]
      unfold pX7_complete_7_b
      rw [hE.n]
      rcases Nat.lt_or_ge k (D 0 0) with q | q
      · rw [if_neg (nleN (by omega) (by omega) q), bd_t (mHas E hS31 (by omega))]
        unfold pX7_complete_35 pX7_complete_59
        have e4 : ∀ v, (sS E 3 v).1 4 = E.1 4 := fun v => sS_ne (by decide)
        have hh : ∀ F : St, pX7_has F (nI S) (nI k) = some (b2i (S.testBit k)) := fun F => mHas F hS31 (by omega)
        simp only [ltv, e4, hE.ci, hE.co, nI_sh k (show k < 31 by omega), nI_lor, or0I, nI_1, hh]
        cases z : S.testBit k with
        | true =>
          rw [if_neg (show ¬ b2i true = 0 by decide), bd_t rfl, if_neg (show ¬ b2i true = 0 by decide)]
          refine ih (k + 1) _ (by omega) q (by omega) ?_ (by rw [sS_ne (by decide), sS_ne (by decide)]; exact h7)
          rw [addT_s, addT_s, z, decide_eq_true h0]
          exact (hE.setI _).setO _
        | false =>
          rw [if_pos (show b2i false = 0 from rfl), bd_t rfl, if_pos (show b2i false = 0 from rfl)]
          refine ih (k + 1) _ (by omega) q (by omega) ?_ (by rw [sS_ne (by decide), sS_ne (by decide)]; exact h7)
          rw [addT_s, addT_s, z, decide_eq_true h0]
          exact (hE.setI _).setO _
      · have : k = D 0 0 := by omega
        subst this
        rw [if_pos (nleI (by omega) (by omega) q), bd_t (mPrice hE w hS)]
        exact ⟨E, rfl, hE, h7⟩
  refine key FU 1 M (Nat.le_refl 1) n1 (by unfold FU; omega) ?_ rfl
  have a1 : ∀ p : Nat → Bool, ∀ x, p 0 = false → addT p x 1 = x := fun p x h => by rw [addT_s, h]; rfl
  rw [a1 _ _ rfl, a1 _ _ rfl]
  exact hM
theorem aComplete (hI : InvD D i o C M) : AgrP (pX6_complete C) (pX7_complete M) := by
  have hI0 := hI
  obtain ⟨w, ⟨hi, ho⟩, hex, hC, hM⟩ := hI
  obtain ⟨n1, n2⟩ := w.n
  have hp := p2le w
  have h1 : 1 ≤ 2 ^ D 0 0 := Nat.one_le_two_pow
  cases q : bestTo D (cmpl D i o) (2 ^ D 0 0) with
  | none =>
    obtain ⟨S, s1, s2⟩ := hex
    have := bestTo_is (D := D) (p := cmpl D i o) (2 ^ D 0 0)
    rw [q] at this
    exact absurd ⟨s1, s2⟩ (this S)
  | some S =>
    obtain ⟨hS, hc⟩ := best_lt q
    have mc := mCheapest hM w hi ho
    have cc := cCheapest hC w hi ho
    rw [q] at mc cc
    obtain ⟨M', m1, m2, m3⟩ := mFill w hS (hM.thr 0)
    obtain ⟨b1, b2⟩ := cmpl_sub hc
    have ei : addT (fun j => decide (1 ≤ j) && S.testBit j) i (D 0 0) = i ||| (adn (2 ^ D 0 0 - 1) (1 ||| i ||| o) &&& S) := by
      refine Nat.eq_of_testBit_eq fun j => ?_
      rw [addT_tb, Nat.testBit_or, Nat.testBit_and, adn_tb, Nat.testBit_or, Nat.testBit_or, Nat.testBit_two_pow_sub_one, show (1 : Nat) = 2 ^ 0 from rfl, tb_pow]
      have g1 := b1 j
      have g2 := b2 j
      by_cases z : j = 0
      · subst z; cases i.testBit 0 <;> cases S.testBit 0 <;> simp
      · rw [decide_eq_true (show 2 ^ 0 ≤ j by simp; omega), decide_eq_false (show ¬ 0 = j by omega)]
        cases a : i.testBit j <;> cases b : o.testBit j <;> cases c : S.testBit j <;> simp_all
    have eo : addT (fun j => decide (1 ≤ j) && !S.testBit j) o (D 0 0) = o ||| adn (adn (2 ^ D 0 0 - 1) (1 ||| i ||| o)) S := by
      refine Nat.eq_of_testBit_eq fun j => ?_
      rw [addT_tb, Nat.testBit_or, adn_tb, adn_tb, Nat.testBit_or, Nat.testBit_or, Nat.testBit_two_pow_sub_one, show (1 : Nat) = 2 ^ 0 from rfl, tb_pow]
      have g1 := b1 j
      have g2 := b2 j
      by_cases z : j = 0
      · subst z; cases o.testBit 0 <;> cases S.testBit 0 <;> simp
      · rw [decide_eq_true (show 2 ^ 0 ≤ j by simp; omega), decide_eq_false (show ¬ 0 = j by omega)]
        cases a : i.testBit j <;> cases b : o.testBit j <;> cases c : S.testBit j <;> simp_all
    rw [ei, eo] at m2
    have hU : adn (2 ^ D 0 0 - 1) (1 ||| i ||| o) < 2 ^ D 0 0 := adn_lt (by omega)
    have hC2 := (hC.setI (i ||| (adn (2 ^ D 0 0 - 1) (1 ||| i ||| o) &&& S))).setO (o ||| adn (adn (2 ^ D 0 0 - 1) (1 ||| i ||| o)) S)
    refine ⟨priceI D S, _, M', ?_, ?_, D, _, _, w, ⟨Nat.or_lt_two_pow hi (and_lt hU), Nat.or_lt_two_pow ho (adn_lt hU)⟩, ⟨S, hS, ?_⟩, hC2, m2⟩
    · unfold pX6_complete
      have c0 : ∀ v, (sS C 0 v).1 1 = nI o := fun v => by rw [sS_ne (by decide)]; exact hC.co
      have l1 : ∀ x, (1 : Int32) ||| nI x = nI (1 ||| x) := fun x => nI_lor 1 x
      rw [bd_t cc, bd_t (cAllF hC w), hC.ci, hC.co, show oI (some S) = nI S from rfl]
      simp only [ltv, l1, nI_lor, nI_adn, nI_land, c0]
      rw [bd_t (cPrice hC2 w hS)]
    · unfold pX7_complete
      rw [bd_t mc]
      simp only [ltv]
      exact m1
    · refine cmpl_iff.mpr ⟨zero_all.mpr fun j => ?_, zero_all.mpr fun j => ?_, cmpl_good hc⟩
      · rw [adn_tb, Nat.testBit_or, Nat.testBit_and]
        cases a : S.testBit j with
        | true => simp
        | false =>
          cases c : i.testBit j with
          | true => rw [b1 j c] at a; cases a
          | false => simp
      · rw [Nat.testBit_and, Nat.testBit_or, adn_tb]
        cases a : S.testBit j with
        | false => simp
        | true =>
          cases c : o.testBit j with
          | true => rw [b2 j c] at a; cases a
          | false => simp
end Dec2
