section Mand
variable {D : Dt} {i o : Nat} {C M : St}
def seD (D : Dt) (a f v : Nat) : Dt := fun x y => if x = a ∧ y = f then v else D x y
theorem se_row {a f v x : Nat} (h : x ≠ a) : seD D a f v x = D x := by
  funext y
  unfold seD
  rw [if_neg (fun q => h q.1)]
theorem se_at {a f v y : Nat} : seD D a f v a y = if y = f then v else D a y := by
  unfold seD
  by_cases h : y = f
  · rw [if_pos ⟨rfl, h⟩, if_pos h]
  · rw [if_neg (fun q => h q.2), if_neg h]
theorem ma_mand (w : WF D) {f : Nat} (hf : f < D 0 0) (b : Bool) : mandM (seD D 4 f b.toNat) = if b then mandM D ||| 2 ^ f else adn (mandM D) (2 ^ f) := by
  have n2 := w.n.2
  refine Nat.eq_of_testBit_eq fun j => ?_
  rw [mandM_tb, se_at]
  cases b with
  | true =>
    rw [if_pos rfl, Nat.testBit_or, mandM_tb, tb_pow]
    by_cases h : j = f
    · rw [if_pos h, decide_eq_true h.symm, decide_eq_true (show j < 12 by omega)]; simp
    · rw [if_neg h, decide_eq_false (show ¬ f = j by omega)]; simp
  | false =>
    show (decide (j < 12) && decide ((if j = f then false.toNat else D 4 j) = 1)) = (adn (mandM D) (2 ^ f)).testBit j
    rw [adn_tb, mandM_tb, tb_pow]
    by_cases h : j = f
    · rw [if_pos h, decide_eq_true h.symm]; simp
    · rw [if_neg h, decide_eq_false (show ¬ f = j by omega)]; simp
theorem ma_wf (w : WF D) {f : Nat} (hf : f < D 0 0) (b : Bool) : WF (seD D 4 f b.toNat) := by
  obtain ⟨w1, w5, w6, w7, w8, w9, w10, w11⟩ := w
  have g00 : seD D 4 f b.toNat 0 = D 0 := se_row (by decide)
  have bl : b.toNat ≤ 1 := sN b
  refine ⟨by rw [g00]; exact w1, ?_, ?_, ?_, ?_, ?_, ?_, ?_⟩
  · rw [g00, se_row (x := 1) (by decide)]; exact w5
  · rw [se_row (x := 2) (by decide), se_row (x := 3) (by decide)]
    intro g hg
    obtain ⟨a1, a2, a3⟩ := w6 g hg
    refine ⟨a1, a2, ?_⟩
    rw [se_at]; split
    · exact bl
    · exact a3
  · rw [g00, se_row (x := 2) (by decide)]
    intro g hg h12
    obtain ⟨a1, a2⟩ := w7 g hg h12
    refine ⟨a1, ?_⟩
    rw [se_at, if_neg (by omega)]; exact a2
  · rw [g00, se_row (x := 5) (by decide), se_row (x := 6) (by decide), se_row (x := 7) (by decide), se_row (x := 8) (by decide), se_row (x := 9) (by decide)]; exact w8
  · rw [g00, se_row (x := 10) (by decide)]; exact w9
  · rw [se_row (x := 10) (by decide)]; exact w10
  · rw [g00, se_row (x := 11) (by decide), se_row (x := 12) (by decide), se_row (x := 13) (by decide), se_row (x := 14) (by decide)]; exact w11
theorem ma_RelC (hC : RelC D i o C) {f v : Nat} (v' : Int32) (hv : v' = nI (mandM (seD D 4 f v))) : RelC (seD D 4 f v) i o (sS C 2 v') := by
  obtain ⟨⟨r1, r2, r3, r4, r5, r6, r7⟩, ⟨p1, p2, p3, p4, p5⟩, q1, q2, q3⟩ := hC
  have g00 : seD D 4 f v 0 = D 0 := se_row (by decide)
  have sc : ∀ x, x ≠ 2 → (sS C 2 v').1 x = C.1 x := fun x hx => sS_ne hx
  refine ⟨⟨?_, ?_, ?_, ?_, ?_, ?_, ?_⟩, ⟨p1, ?_, ?_, ?_, ?_⟩, ?_, ?_, ?_⟩
  · rw [sc 0 (by decide)]; exact r1
  · rw [sc 1 (by decide)]; exact r2
  · rw [sS_eq]; exact hv
  · rw [sc 3 (by decide), g00]; exact r4
  · rw [sc 4 (by decide), forceM_cong (se_row (by decide)) (by rw [g00])]; exact r5
  · rw [sc 5 (by decide), g00]; exact r6
  · rw [sc 6 (by decide), g00]; exact r7
  · rw [g00, se_row (x := 1) (by decide)]; exact p2
  · intro g hg
    rw [kidM_cong (se_row (by decide)) (by rw [g00])]; exact p3 g hg
  · rw [se_row (x := 2) (by decide)]; exact p4
  · rw [g00, se_row (x := 3) (by decide)]; exact p5
  · rw [g00]
    intro k hk
    have e : wantM (seD D 4 f v) k = wantM D k ∧ unwM (seD D 4 f v) k = unwM D k ∧ lastM (seD D 4 f v) k = lastM D k := by
      unfold wantM unwM lastM
      rw [se_row (x := 5) (by decide), se_row (x := 6) (by decide), se_row (x := 7) (by decide), se_row (x := 8) (by decide)]
      exact ⟨rfl, rfl, rfl⟩
    rw [e.1, e.2.1, e.2.2]; exact q1 k hk
  · rw [se_row (x := 10) (by decide)]; exact q2
  · rw [g00, se_row (x := 11) (by decide), se_row (x := 14) (by decide)]
    intro k hk
    have e : detM (seD D 4 f v) k = detM D k := by
      unfold detM
      rw [se_row (x := 11) (by decide), se_row (x := 12) (by decide), se_row (x := 13) (by decide)]
    rw [e]; exact q3 k hk
theorem ma_RelM (hM : RelM D i o M) {f v : Nat} : RelM (seD D 4 f v) i o (sA M 4 f (nI v)) := by
  obtain ⟨⟨r1, r2, r3, r4, r5⟩, ⟨p1, p2, p3, p4, p5, p6⟩, q1, q2⟩ := hM
  have g00 : seD D 4 f v 0 = D 0 := se_row (by decide)
  have row : ∀ x, x ≠ 4 → (sA M 4 f (nI v)).2 x = M.2 x := fun x hx => sA_ne hx
  refine ⟨⟨by rw [g00]; exact r1, by rw [g00]; exact r2, by rw [g00]; exact r3, r4, r5⟩, ⟨?_, ?_, ?_, ?_, ?_, ?_⟩, ?_, ?_⟩
  · rw [row 0 (by decide)]; exact p1
  · rw [row 0 (by decide), g00, se_row (x := 1) (by decide)]; exact p2
  · rw [row 1 (by decide), g00, se_row (x := 10) (by decide)]; exact p3
  · rw [row 2 (by decide), se_row (x := 2) (by decide)]; exact p4
  · rw [row 3 (by decide), g00, se_row (x := 3) (by decide)]; exact p5
  · intro g hg
    rw [sA_eq, se_at]
    by_cases y : g = f
    · rw [if_pos y]; exact if_pos y
    · rw [if_neg y, ← p6 g hg]; exact if_neg y
  · rw [row 5 (by decide), row 6 (by decide), row 9 (by decide), row 10 (by decide), row 11 (by decide), g00, se_row (x := 5) (by decide), se_row (x := 6) (by decide), se_row (x := 7) (by decide), se_row (x := 8) (by decide), se_row (x := 9) (by decide)]; exact q1
  · rw [row 7 (by decide), row 12 (by decide), row 13 (by decide), row 14 (by decide), g00, se_row (x := 11) (by decide), se_row (x := 12) (by decide), se_row (x := 13) (by decide), se_row (x := 14) (by decide)]; exact q2
theorem se_back {a f v : Nat} : seD (seD D a f v) a f (D a f) = D := by
  funext x y
  unfold seD
  by_cases h : x = a ∧ y = f
  · rw [if_pos h, h.1, h.2]
  · rw [if_neg h, if_neg h]
def cdMa (k : Nat) : Nat := if k = 1 then 1 else if k = 2 then 2 else if k = 4 then 3 else 0
theorem aMandatory (hI : InvD D i o C M) (x : Int32) (b : Bool) : Agr cdMa (pX6_setMandatory C x (b2i b)) (pX7_setMandatory M x (b2i b)) := by
  have hI0 := hI
  obtain ⟨w, ⟨hi, ho⟩, hex, hC, hM⟩ := hI
  obtain ⟨n1, n2⟩ := w.n
  have h1 := hM.thr 0
  rcases feat w x with ⟨f, hf, rfl, f1, f2⟩ | ⟨f1, f2⟩
  · unfold pX6_setMandatory pX7_setMandatory pX6_checkNotRoot
    rw [tb_t (f1 C i o hC), bd_t (f2 M i o hM), bd_t (mT0 M 1), if_pos rfl]
    by_cases z : f = 0
    · have z' : nI f = 0 := by rw [z]; rfl
      rw [if_pos z', if_pos z', tb_e rfl]
      unfold pX7_setMandatory_23
      rw [bd_t (mT1 (sS M 7 0) 2), if_neg (show ¬ (1 : Int32) = 0 by decide)]
      exact ⟨_, _, _, rfl, (hI0.m (h1.thr 2)).inv, Or.inl ⟨2, rfl, by decide, sS_eq⟩⟩
    · have z' : ¬ nI f = 0 := fun q => by have := (nI0 (by omega)).mp q; omega
      have h2 := h1.thr 0
      have hm31 : mandM D < 2 ^ 31 := Nat.lt_of_lt_of_le (mandM_lt D) (by decide)
      have hl := (w.g (show f < 12 by omega)).2.2
      rw [if_neg z', if_neg z', tb_t rfl]
      have g00 : seD D 4 f b.toNat 0 = D 0 := se_row (by decide)
      have w' := ma_wf w hf b
      have hi' : i < 2 ^ seD D 4 f b.toNat 0 0 := by rw [g00]; exact hi
      have ho' : o < 2 ^ seD D 4 f b.toNat 0 0 := by rw [g00]; exact ho
      have hC' := ma_RelC hC (f := f) (v := b.toNat) _ rfl
      have hM' := ma_RelM h2 (f := f) (v := b.toNat)
      -- the class
      have cE : ∀ r, bd (pX6_hasCompletion (sS C 2 (nI (mandM (seD D 4 f b.toNat))))) (fun r_6 => if r_6 = 0 then ltv (sS (sS C 2 (nI (mandM (seD D 4 f b.toNat)))) 2 (nI (mandM D))) (fun C_8 => some (.inl (4, C_8))) else bd (pX6_has (sS C 2 (nI (mandM (seD D 4 f b.toNat)))) (nI (mandM D)) (nI f)) (fun r_7 => gd (okZ r_7) (some (.inr (r_7, (sS C 2 (nI (mandM (seD D 4 f b.toNat)))))))) ) = r → (ltv (C.1 2) (fun v_3 => ltv ((1 : Int32) <<< (nI f &&& 31)) (fun v_4 => if b2i b = 0 then pX6_setMandatory_44 C (nI f) v_3 (v_3 &&& (v_4 ^^^ (-1))) else pX6_setMandatory_44 C (nI f) v_3 (v_3 ||| v_4)))) = r := fun r hr => by
        rw [← hr, ma_mand w hf b]
        unfold pX6_setMandatory_44
        simp only [ltv, hC.md, nI_sh f (show f < 31 by omega), nI_adn, nI_lor]
        cases b <;> rfl
      have vn : vp_nar .boolean (b2i b) = nI b.toNat := by cases b <;> decide
      have vd : vp_nar .boolean (nI (D 4 f)) = nI (D 4 f) := by
        have : D 4 f = 0 ∨ D 4 f = 1 := by omega
        rcases this with q | q <;> rw [q] <;> decide
      have okd : okZ (nI (D 4 f)) := by
        have : D 4 f = 0 ∨ D 4 f = 1 := by omega
        rcases this with q | q <;> rw [q] <;> decide
      have e4 : (sS (sS M 7 0) 7 0).2 4 f = nI (D 4 f) := h2.ma (by omega)
      unfold pX7_setMandatory_23
      rw [bd_t (mT0 (sS M 7 0) 2), if_pos rfl]
      simp only [gd_ix (show f < 12 by omega), ltv, nI_clp (show f < 2 ^ 31 by omega), vn, e4, vd, gd_t okd]
      obtain ⟨c, c1, c2⟩ := cHasCmpl hC' w' hi' ho'
      obtain ⟨d, d1, d2⟩ := mNoneLeft hM' w' (p12 hi' (by rw [g00]; exact n2)) (p12 ho' (by rw [g00]; exact n2))
      have cd : d = !c := by
        cases c with
        | true => exact d2.mpr (c2.mp rfl)
        | false =>
          cases q : d with
          | true => rfl
          | false => exact absurd (c2.mpr (d2.mp q)) (by decide)
      rw [bd_t d1, cd, bd_t (mThr _ (!c) 3)]
      refine (fun h => by
        have := cE _ rfl
        simp only [ltv] at this ⊢
        rw [this]
        exact h) ?_
      rw [bd_t c1]
      cases c with
      | false =>
        rw [if_pos (show b2i false = 0 from rfl), if_neg (show ¬ b2i (!false) = 0 by decide)]
        refine ⟨_, _, _, rfl, ⟨D, i, o, w, ⟨hi, ho⟩, hex, ?_, ?_⟩, Or.inl ⟨4, rfl, by decide, ?_⟩⟩
        · have := ma_RelC hC' (f := f) (v := D 4 f) (nI (mandM D)) (by rw [se_back])
          rw [se_back] at this; exact this
        · have := ma_RelM (hM'.thr 3) (f := f) (v := D 4 f)
          rw [se_back] at this; exact this
        · show (sS (sA (sS (sS M 7 0) 7 0) 4 f (nI b.toNat)) 7 3).1 7 = _
          rw [sS_eq]; rfl
      | true =>
        rw [if_neg (show ¬ b2i true = 0 by decide), if_pos (show b2i (!true) = 0 from rfl), bd_t (cHas _ hm31 (show f < 32 by omega)), gd_t (b2i_ok _)]
        have ea : b2i ((mandM D).testBit f) = nI (D 4 f) := by
          rw [mandM_tb, decide_eq_true (show f < 12 by omega), Bool.true_and]
          have : D 4 f = 0 ∨ D 4 f = 1 := by omega
          rcases this with q | q <;> rw [q] <;> rfl
        rw [ea]
        exact ⟨_, _, _, rfl, ⟨_, i, o, w', ⟨hi', ho'⟩, c2.mp rfl, hC', hM'.thr 0⟩, Or.inr ⟨rfl, sS_eq⟩⟩
  · unfold pX6_setMandatory pX7_setMandatory
    rw [tb_e (f1 C i o hC), bd_t (f2 M i o hM), bd_t (mT1 M 1), if_neg (show ¬ (1 : Int32) = 0 by decide)]
    exact ⟨_, _, _, rfl, (hI0.m (hM.thr 1)).inv, Or.inl ⟨1, rfl, by decide, sS_eq⟩⟩
end Mand
