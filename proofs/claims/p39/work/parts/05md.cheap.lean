section Cheap
variable {D : Dt} {i o : Nat} {C M : St}
theorem chk {b : Bool} (h : b = false) : ¬ b = true := by rw [h]; decide
theorem cCheapFrom (h : RelC D i o C) (w : WF D) {ii oo : Nat} (hi : ii < 2 ^ 12) (ho : oo < 2 ^ 12) : ∀ n f s, f ≤ D 0 0 → D 0 0 < f + n → s < 2 ^ f → ∃ r, pX4_cheapestFrom n C (nI f) (nI s) (nI ii) (nI oo) = some (oI r) ∧ isBest D (rest D ii oo f s) r := by
  obtain ⟨n1, n2⟩ := w.n
  intro n
  induction n with
  | zero => intro f s h1 h2; omega
  | succ n ih =>
    intro f s h1 h2 hs
    have bnd : ∀ {g t : Nat} {r : Option Nat}, isBest D (rest D ii oo g t) r → ∀ S, r = some S → S < 2 ^ D 0 0 := fun hr => isBest_bd (fun S q => q.1) hr
    show ∃ r, pX4_cheapestFrom_e (pX4_cheapestFrom n) C (nI f) (nI s) (nI ii) (nI oo) = some (oI r) ∧ _
    unfold pX4_cheapestFrom_e
    rw [h.n]
    rcases Nat.lt_or_ge f (D 0 0) with hf | hf
    · rw [if_pos (nltI (by omega) (by omega) hf)]
      have sp := fun S => rest_split (ii := ii) (oo := oo) (S := S) hf hs
      have go : ∀ (P : Nat → Prop) (a : Option Nat), isBest D P a → (∀ S, a = some S → S < 2 ^ D 0 0) → ∃ r, pX4_cheapestFrom_44 (pX4_cheapestFrom n) C (nI f) (nI s) (nI ii) (nI oo) (oI a) = some (oI r) ∧ isBest D (fun S => P S ∨ (canIn D oo f s ∧ rest D ii oo (f + 1) (s ||| 2 ^ f) S)) r := by
        intro P a ha hab
        unfold pX4_cheapestFrom_44
        obtain ⟨b, e1, e2⟩ := cCanTake h w ho hf (lt_pow_n hs h1)
        rw [bd_t e1]
        cases b with
        | true =>
          obtain ⟨r, r1, r2⟩ := ih (f + 1) (s ||| 2 ^ f) hf (by omega) (or_lt' hs)
          rw [if_neg (by decide), nI_1, nI_sh f (by omega), nI_lor]
          simp only [ltv]
          rw [bd_t r1, bd_t (cCheaper h w hab (bnd r2))]
          exact ⟨_, rfl, isBest_cong (fun S => ⟨fun q => q.elim Or.inl (fun z => Or.inr ⟨e2.mp rfl, z⟩), fun q => q.elim Or.inl (fun z => Or.inr z.2)⟩) (isBest_mn ha r2)⟩
        | false =>
          rw [if_pos (by decide)]
          exact ⟨_, rfl, isBest_cong (fun S => ⟨Or.inl, fun q => q.elim id (fun z => absurd (e2.mpr z.1) (by decide))⟩) ha⟩
      obtain ⟨b, e1, e2⟩ := cCanLeave h w hi hf (lt_pow_n hs h1)
      rw [bd_t e1]
      cases b with
      | true =>
        obtain ⟨r, r1, r2⟩ := ih (f + 1) s hf (by omega) (lt_succ_pow hs)
        rw [if_neg (by decide), nI_1, bd_t r1]
        obtain ⟨r', r3, r4⟩ := go _ r r2 (bnd r2)
        exact ⟨r', r3, isBest_cong (fun S => ⟨fun q => (sp S).mpr (q.elim (fun z => Or.inl ⟨e2.mp rfl, z⟩) Or.inr), fun q => ((sp S).mp q).elim (fun z => Or.inl z.2) Or.inr⟩) r4⟩
      | false =>
        rw [if_pos (by decide)]
        obtain ⟨r', r3, r4⟩ := go (fun _ => False) none isBest_none (fun S q => by cases q)
        exact ⟨r', r3, isBest_cong (fun S => ⟨fun q => (sp S).mpr (q.elim False.elim Or.inr), fun q => ((sp S).mp q).elim (fun z => absurd (e2.mpr z.1) (by decide)) Or.inr⟩) r4⟩
    · have : f = D 0 0 := by omega
      subst this
      rw [if_neg (nltN (by omega) (by omega) (Nat.le_refl _))]
      exact ⟨some s, rfl, isBest_cong (fun S => (rest_end hs).symm) (isBest_one s)⟩
theorem best_lt {p : Nat → Bool} {n S : Nat} (h : bestTo D p n = some S) : S < n ∧ p S = true := by
  have := bestTo_is (D := D) (p := p) n
  rw [h] at this
  exact this.1
theorem cCheapest (h : RelC D i o C) (w : WF D) (hi : i < 2 ^ D 0 0) (ho : o < 2 ^ D 0 0) : pX6_cheapest C = some (oI (bestTo D (cmpl D i o) (2 ^ D 0 0))) := by
  obtain ⟨n1, n2⟩ := w.n
  unfold pX6_cheapest
  rw [h.ci, h.co]
  obtain ⟨r, r1, r2⟩ := cCheapFrom h w (p12 hi n2) (p12 ho n2) RU 0 0 (Nat.zero_le _) (by unfold RU; omega) (by decide)
  rw [bd_t (show pX4_cheapestFrom RU C 0 0 (nI i) (nI o) = _ from r1)]
  rw [isBest_uniq (isBest_cong (fun S => rest_cmpl w hi) r2) (bestTo_is (2 ^ D 0 0))]
theorem cCheapestAll (h : RelC D i o C) (w : WF D) (hi : i < 2 ^ D 0 0) (ho : o < 2 ^ D 0 0) : pX6_cheapestByAll C = some (oI (bestTo D (cmpl D i o) (2 ^ D 0 0))) := by
  have hp := p2le w
  have h1 : 1 ≤ 2 ^ D 0 0 := Nat.one_le_two_pow
  unfold pX6_cheapestByAll
  rw [bd_t (cAllF h w)]
  refine loopF (F := fun N k => pX6_cheapestByAll_12 N C (oI (bestTo D (cmpl D i o) k)) (nI (2 ^ D 0 0 - 1)) (nI k)) (m := 2 ^ D 0 0) (fun N => ?_) (fun N k hk => Or.inl ?_) FU 0 (Nat.zero_le _) (by unfold FU; omega)
  · show pX6_cheapestByAll_12_b (pX6_cheapestByAll_12 N) C _ _ (nI (2 ^ D 0 0)) = _
    unfold pX6_cheapestByAll_12_b
    rw [if_pos (nltI (by omega) (by omega) (by omega))]
  · show pX6_cheapestByAll_12_b (pX6_cheapestByAll_12 N) C _ _ (nI k) = pX6_cheapestByAll_12 N C _ _ (nI (k + 1))
    unfold pX6_cheapestByAll_12_b pX6_cheapestByAll_35
    rw [if_neg (nltN (by omega) (by omega) (by omega)), bd_t (cIsCmpl h w hi ho hk)]
    simp only [ltv, nI_1]
    have e : bestTo D (cmpl D i o) (k + 1) = if cmpl D i o k then mn D (bestTo D (cmpl D i o) k) (some k) else bestTo D (cmpl D i o) k := rfl
    rw [e, show nI k = oI (some k) from rfl, bd_t (cCheaper h w (fun S q => by have := (best_lt q).1; omega) (fun S q => by cases q; exact hk))]
    cases cmpl D i o k <;> rfl
/-! the model's loops over the odd sets -/
theorem fo_odd {α : Type} {p : Nat → Bool} {g : α → Nat → α} {a : α} {k : Nat} (h : p (2 * k) = false) : fo p g a (2 * (k + 1)) = if p (2 * k + 1) then g (fo p g a (2 * k)) (2 * k + 1) else fo p g a (2 * k) := by
  rw [show 2 * (k + 1) = 2 * k + 1 + 1 by omega, fo_s, fo_s, h]
  rfl
theorem even_no {k : Nat} : cmpl D i o (2 * k) = false := by
  cases h : cmpl D i o (2 * k) with
  | false => rfl
  | true =>
    obtain ⟨j, hj⟩ := odd_2k.mp (cmpl_odd h)
    omega
theorem nI_odd (k : Nat) : nI (2 * k + 1) + 2 = nI (2 * (k + 1) + 1) := (nI_add (2 * k + 1) 2).trans (by congr 1)
theorem mCheap9 (h : RelM D i o M) (w : WF D) (hi : i < 2 ^ D 0 0) (ho : o < 2 ^ D 0 0) : pX7_cheapest_9 FU M (-1) 1 = some (oI (bestTo D (cmpl D i o) (2 ^ D 0 0)), M) := by
  obtain ⟨n1, n2⟩ := w.n
  have hp := p2le w
  have hh := pow_half n1
  rw [hh]
  refine loopF (F := fun N k => pX7_cheapest_9 N M (oI (bestTo D (cmpl D i o) (2 * k))) (nI (2 * k + 1))) (m := 2 ^ (D 0 0 - 1)) (fun N => ?_) (fun N k hk => Or.inl ?_) FU 0 (Nat.zero_le _) (by unfold FU; omega)
  · show pX7_cheapest_9_b (pX7_cheapest_9 N) M _ (nI (2 * 2 ^ (D 0 0 - 1) + 1)) = _
    unfold pX7_cheapest_9_b
    rw [h.n, shAll w, if_pos (nleI (by omega) (by omega) (by omega))]
  · show pX7_cheapest_9_b (pX7_cheapest_9 N) M _ (nI (2 * k + 1)) = pX7_cheapest_9 N M _ (nI (2 * (k + 1) + 1))
    unfold pX7_cheapest_9_b pX7_cheapest_44 pX7_cheapest_40 pX7_cheapest_45
    rw [h.n, shAll w, if_neg (nleN (by omega) (by omega) (by omega)), bd_t (mCompletes h w (show 2 * k + 1 < 2 ^ 12 by omega) (p12 hi n2) (p12 ho n2))]
    simp only [ltv, nI_odd]
    have e : bestTo D (cmpl D i o) (2 * (k + 1)) = if cmpl D i o (2 * k + 1) then mn D (bestTo D (cmpl D i o) (2 * k)) (some (2 * k + 1)) else bestTo D (cmpl D i o) (2 * k) := fo_odd even_no
    rw [e]
    cases hc : cmpl D i o (2 * k + 1) with
    | false => rfl
    | true =>
      rw [if_neg (show ¬ b2i true = 0 by decide), if_pos rfl]
      cases hb : bestTo D (cmpl D i o) (2 * k) with
      | none => rw [if_pos (show oI none < 0 by decide)]; rfl
      | some S =>
        have hS := (best_lt hb).1
        rw [if_neg (show ¬ oI (some S) < 0 from nI_pos (by omega)), mn_ss, show oI (some S) = nI S from rfl, bd_t (mCheaper h w (show 2 * k + 1 < 2 ^ D 0 0 by omega) (show S < 2 ^ D 0 0 by omega))]
        cases chpB D (2 * k + 1) S <;> rfl
theorem sS_ne {C : St} {k j : Nat} {v : Int32} (h : j ≠ k) : (sS C k v).1 j = C.1 j := if_neg h
theorem sS_eq {C : St} {k : Nat} {v : Int32} : (sS C k v).1 k = v := if_pos rfl
theorem sA_ne {C : St} {k j i : Nat} {v : Int32} (h : j ≠ k) : (sA C k i v).2 j = C.2 j := if_neg h
theorem sA_eq {C : St} {k i : Nat} {v : Int32} : (sA C k i v).2 k = upd (C.2 k) i v := if_pos rfl
theorem RelM.thr (h : RelM D i o M) (v : Int32) : RelM D i o (sS M 7 v) := by
  refine ⟨?_, h.2⟩
  rw [sS_ne (by decide), sS_ne (by decide), sS_ne (by decide), sS_ne (by decide), sS_ne (by decide)]
  exact h.1
theorem mCheapest (h : RelM D i o M) (w : WF D) (hi : i < 2 ^ D 0 0) (ho : o < 2 ^ D 0 0) : pX7_cheapest M = some (oI (bestTo D (cmpl D i o) (2 ^ D 0 0)), sS M 7 0) := by
  unfold pX7_cheapest
  simp only [ltv]
  exact mCheap9 (h.thr 0) w hi ho
theorem mCount9 (h : RelM D i o M) (w : WF D) (hi : i < 2 ^ D 0 0) (ho : o < 2 ^ D 0 0) : pX7_completions M = some (lN (ct (cmpl D i o) (2 ^ D 0 0)), sS M 7 0) := by
  obtain ⟨n1, n2⟩ := w.n
  have hp := p2le w
  have hh := pow_half n1
  unfold pX7_completions
  simp only [ltv]
  have h := h.thr 0
  generalize sS M 7 0 = M at h ⊢
  rw [hh]
  refine loopF (F := fun N k => pX7_completions_9 N M (lN (ct (cmpl D i o) (2 * k))) (nI (2 * k + 1))) (m := 2 ^ (D 0 0 - 1)) (fun N => ?_) (fun N k hk => Or.inl ?_) FU 0 (Nat.zero_le _) (by unfold FU; omega)
  · show pX7_completions_9_b (pX7_completions_9 N) M _ (nI (2 * 2 ^ (D 0 0 - 1) + 1)) = _
    unfold pX7_completions_9_b
    rw [h.n, shAll w, if_pos (nleI (by omega) (by omega) (by omega))]
  · show pX7_completions_9_b (pX7_completions_9 N) M _ (nI (2 * k + 1)) = pX7_completions_9 N M _ (nI (2 * (k + 1) + 1))
    unfold pX7_completions_9_b pX7_completions_33
    rw [h.n, shAll w, if_neg (nleN (by omega) (by omega) (by omega)), bd_t (mCompletes h w (show 2 * k + 1 < 2 ^ 12 by omega) (p12 hi n2) (p12 ho n2))]
    simp only [ltv, nI_odd]
    rw [show 2 * (k + 1) = 2 * k + 1 + 1 by omega, ct_s, ct_s, even_no]
    cases cmpl D i o (2 * k + 1) with
    | true =>
      rw [if_neg (show ¬ b2i true = 0 by decide), lN_1]; rfl
    | false =>
      rw [if_pos (show b2i false = 0 by decide), show lN (ct (cmpl D i o) (2 * k)) + 0 = lN (ct (cmpl D i o) (2 * k) + 0) from Int64.add_zero _]; rfl
end Cheap
