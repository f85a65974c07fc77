section CDed3
variable {D : Dt} {i o : Nat} {C : St} {K : Kn}
/-- the line's cells stand -/
def lnS (C C' : St) : Prop := C'.1 9 = C.1 9 ∧ C'.2 13 = C.2 13
theorem cTree0 (h : RelC D i o C) (hr : RepC D K C) (w : WF D) (hK : okK D K) {f : Nat} (h0 : 1 ≤ f) (hf : f < D 0 0) (ht : treeL D K.1.1 K.1.2 f = 0) : pX0_learnByTree C (nI f) = some (0, C) := by
  have hk : kinL D K.1.1 K.1.2 f = 32 := Classical.byContradiction fun q => by
    have := kin_ne q
    rw [ht] at this
    have h2 : kinL D K.1.1 K.1.2 f = 0 := this.symm
    unfold kinL at h2
    split at h2
    · exact absurd h2 (by decide)
    · split at h2
      · exact absurd h2 (by decide)
      · split at h2
        · exact absurd h2 (by decide)
        · split at h2 <;> exact absurd h2 (by decide)
  have hg : grpL D K.1.1 K.1.2 f = 32 := Classical.byContradiction fun q => by
    have := kin32 hk
    rw [ht, if_neg q] at this
    have h2 : grpL D K.1.1 K.1.2 f = 0 := this.symm
    unfold grpL at h2
    split at h2
    · exact absurd h2 (by decide)
    · split at h2
      · exact absurd h2 (by decide)
      · split at h2 <;> exact absurd h2 (by decide)
  unfold pX0_learnByTree pX0_learnByTree_20
  rw [bd_t (cKin h hr w hK h0 hf), hk, if_pos rfl, bd_t (cGrp h hr w hK h0 hf), hg, if_pos rfl]
theorem cTree1 (h : RelC D i o C) (hr : RepC D K C) (w : WF D) (hK : okK D K) {f : Nat} (h0 : 1 ≤ f) (hf : f < D 0 0) (ht : treeL D K.1.1 K.1.2 f ≠ 0) : ∃ C', pX0_learnByTree C (nI f) = some (1, C') ∧ RelC D i o C' ∧ RepC D (putK K f (treeL D K.1.1 K.1.2 f) (inL (treeL D K.1.1 K.1.2 f))) C' ∧ lnS C C' := by
  obtain ⟨t1, t2, t3, t4, t5⟩ := treeL_ok ht
  have go : pX0_learnByTree C (nI f) = pX0_learnByTree_20 C (nI f) (treeL D K.1.1 K.1.2 f) := by
    unfold pX0_learnByTree
    rw [bd_t (cKin h hr w hK h0 hf)]
    by_cases q : kinL D K.1.1 K.1.2 f = 32
    · rw [if_pos q, bd_t (cGrp h hr w hK h0 hf)]
      have := kin32 q
      by_cases z : grpL D K.1.1 K.1.2 f = 32
      · rw [if_pos z] at this; exact absurd this ht
      · rw [if_neg z] at this; rw [this]
    · rw [if_neg q, kin_ne q]
  rw [go]
  unfold pX0_learnByTree_20 pX0_learnByTree_49 pX0_learnByTree_54
  rw [if_neg t2]
  generalize treeL D K.1.1 K.1.2 f = l at t1 t2 t3 t4 t5 ⊢
  by_cases l1 : l = 99
  · obtain ⟨C', e1, e2, e3, e4⟩ := cLearn h hr w hf (l := l) (x := 1) (b := true) rfl t5 t3 (fun q => absurd q t4)
    rw [if_pos l1, bd_t e1]
    exact ⟨C', rfl, e2, by rw [show inL l = true by rw [l1]; rfl]; exact e3, e4⟩
  · by_cases l2 : l = 109
    · obtain ⟨C', e1, e2, e3, e4⟩ := cLearn h hr w hf (l := l) (x := 1) (b := true) rfl t5 t3 (fun q => absurd q t4)
      rw [if_neg l1, if_pos l2, bd_t e1]
      exact ⟨C', rfl, e2, by rw [show inL l = true by rw [l2]; rfl]; exact e3, e4⟩
    · by_cases l3 : l = 110
      · obtain ⟨C', e1, e2, e3, e4⟩ := cLearn h hr w hf (l := l) (x := 1) (b := true) rfl t5 t3 (fun q => absurd q t4)
        rw [if_neg l1, if_neg l2, if_pos l3, bd_t e1]
        exact ⟨C', rfl, e2, by rw [show inL l = true by rw [l3]; rfl]; exact e3, e4⟩
      · obtain ⟨C', e1, e2, e3, e4⟩ := cLearn h hr w hf (l := l) (x := 0) (b := false) rfl t5 t3 (fun q => absurd q t4)
        rw [if_neg l1, if_neg l2, if_neg l3, bd_t e1]
        have : inL l = false := by
          unfold inL
          rw [decide_eq_false l1, decide_eq_false l2, decide_eq_false l3]; rfl
        exact ⟨C', rfl, e2, by rw [this]; exact e3, e4⟩
theorem unk {f : Nat} (h : knK K f = false) : K.1.1.testBit f = false ∧ K.1.2.testBit f = false := by
  unfold knK at h
  cases a : K.1.1.testBit f <;> cases b : K.1.2.testBit f <;> simp_all
theorem tellR_eq {ki ko r f : Nat} (h : tellL D ki ko r f ≠ 0) : tellL D ki ko r f = tellR D ki ko r f := by
  unfold tellL at h ⊢
  split
  · rename_i q; rw [if_pos q] at h; exact absurd rfl h
  · rfl
theorem cRule0 (h : RelC D i o C) (hr : RepC D K C) (w : WF D) (hK : okK D K) {f : Nat} (hf : f < D 0 0) (hu : knK K f = false) (hn : frs D K.1.1 K.1.2 f (D 0 1) 0 = none) : pX0_learnByRule C (nI f) = some (0, C) := by
  unfold pX0_learnByRule
  rw [hr.1.1, hr.1.2, bd_t (cKept h w hf hK.1.1 hK.1.2 (unk hu).1 (unk hu).2), hn, if_neg (show ¬ (0 : Int32) ≤ oI none by decide)]
theorem cRule1 (h : RelC D i o C) (hr : RepC D K C) (w : WF D) (hK : okK D K) {f r : Nat} (hf : f < D 0 0) (hu : knK K f = false) (hn : frs D K.1.1 K.1.2 f (D 0 1) 0 = some r) : ∃ C', pX0_learnByRule C (nI f) = some (1, C') ∧ RelC D i o C' ∧ RepC D (putK (byK K f r) f 114 (decide (tellL D K.1.1 K.1.2 r f = 1))) C' ∧ lnS C C' := by
  obtain ⟨n1, n2⟩ := w.n
  have f12 : f < 12 := by omega
  have r20 := w.r
  obtain ⟨-, hr1, hr2⟩ := frs_lt hn
  have hr1 : r < D 0 1 := by omega
  unfold pX0_learnByRule
  rw [hr.1.1, hr.1.2, bd_t (cKept h w hf hK.1.1 hK.1.2 (unk hu).1 (unk hu).2), hn, if_pos (show (0 : Int32) ≤ oI (some r) from nI_pos' (by omega))]
  have hR1 : RelC D i o (sA C 12 f (nI r)) := h.a (by decide)
  have hR2 : RepC D (byK K f r) (sA C 12 f (nI r)) := by
    refine ⟨⟨hr.1.1, hr.1.2⟩, fun g hg => ?_, fun g hg hq => ?_⟩
    · show (sA C 12 f (nI r)).2 11 g = _
      rw [sA_ne (by decide)]; exact hr.2.1 g hg
    · show (sA C 12 f (nI r)).2 12 g = nI (if g = f then r else K.2.2 g)
      rw [sA_eq]
      by_cases z : g = f
      · rw [if_pos z]; exact if_pos z
      · rw [if_neg z, show upd (C.2 12) f (nI r) g = C.2 12 g from if_neg z]; exact hr.2.2 g hg hq
  have hw : (sA C 12 f (nI r)).2 4 r = nI (wantM D r) := (hR1.ru hr1).1
  have eq := tellR_eq hr2
  have ot := (openT w hr1 (unk hu).1 (unk hu).2).2 (by rw [← eq]; exact hr2)
  obtain ⟨C', e1, e2, e3, e4⟩ := cLearn hR1 hR2 w hf (l := 114) (x := b2i (decide (tellL D K.1.1 K.1.2 r f = 1))) (b := decide (tellL D K.1.1 K.1.2 r f = 1)) rfl (by decide) (by decide) (fun _ => by
    show (sA C 12 f (nI r)).2 12 f = nI (if f = f then r else K.2.2 f)
    rw [sA_eq, if_pos rfl]; exact if_pos rfl)
  refine ⟨C', ?_, e2, e3, ?_⟩
  · simp only [ltv, show oI (some r) = nI r from rfl, gd_ix f12, gd_ix (show r < 20 by omega), nI_clp (show f < 2 ^ 31 by omega), nI_clp (show r < 2 ^ 31 by omega), hw]
    rw [bd_t (cHas _ (Nat.lt_of_lt_of_le (wantM_lt w hr1) (by decide)) (by omega)), ot, ← eq, bd_t e1]
  · obtain ⟨a, b⟩ := e4
    exact ⟨a, by rw [b]; exact sA_ne (by decide)⟩
theorem stepF_none {f : Nat} (h : stepF D K f = none) : treeL D K.1.1 K.1.2 f = 0 ∧ frs D K.1.1 K.1.2 f (D 0 1) 0 = none := by
  unfold stepF at h
  split at h
  · rename_i a
    split at h
    · rename_i b; exact ⟨a, b⟩
    · cases h
  · cases h
theorem cLow (h : RelC D i o C) (hr : RepC D K C) (w : WF D) (hK : okK D K) : match low D K with
    | none => pX0_learnLowest C = some (0, C)
    | some K' => ∃ C', pX0_learnLowest C = some (1, C') ∧ RelC D i o C' ∧ RepC D K' C' ∧ lnS C C' := by
  obtain ⟨n1, n2⟩ := w.n
  have key : ∀ N f, f ≤ D 0 0 → D 0 0 < f + N → (match lowF D K (D 0 0 - f) f with
    | none => pX0_learnLowest_2 N C (nI f) = some (0, C)
    | some K' => ∃ C', pX0_learnLowest_2 N C (nI f) = some (1, C') ∧ RelC D i o C' ∧ RepC D K' C' ∧ lnS C C') := by
    intro N
    induction N with
    | zero => intro f h1 h2; omega
    | succ N ih =>
      intro f h1 h2
      have e0 : pX0_learnLowest_2 (N + 1) C (nI f) = pX0_learnLowest_2_b (pX0_learnLowest_2 N) C (nI f) := rfl
      rw [e0]
      unfold pX0_learnLowest_2_b pX0_learnLowest_38
      rw [h.n]
      rcases Nat.lt_or_ge f (D 0 0) with q | q
      · rw [if_neg (nleN (by omega) (by omega) q), bd_t (cKnows hr w hK q)]
        have nx := ih (f + 1) q (by omega)
        obtain ⟨j, hj⟩ : ∃ j, D 0 0 - f = j + 1 := ⟨D 0 0 - f - 1, by omega⟩
        rw [show D 0 0 - (f + 1) = j by omega] at nx
        rw [hj]
        simp only [ltv, nI_1]
        have e1 : lowF D K (j + 1) f = (if knK K f then lowF D K j (f + 1) else (match stepF D K f with | none => lowF D K j (f + 1) | some K' => some K')) := rfl
        rw [e1]
        cases hk : knK K f with
        | true =>
          rw [if_pos rfl, if_neg (show ¬ b2i true = 0 by decide)]
          exact nx
        | false =>
          have f0 : 1 ≤ f := by
            rcases Nat.eq_zero_or_pos f with z | z
            · rw [z] at hk
              unfold knK at hk
              rw [hK.2.1] at hk; cases hk
            · exact z
          rw [if_neg (show ¬ false = true by decide), if_pos (show b2i false = 0 from rfl)]
          cases hs : stepF D K f with
          | none =>
            obtain ⟨s1, s2⟩ := stepF_none hs
            rw [bd_t (cTree0 h hr w hK f0 q s1), if_pos rfl, bd_t (cRule0 h hr w hK q hk s2), if_pos rfl]
            exact nx
          | some K' =>
            unfold stepF at hs
            by_cases t : treeL D K.1.1 K.1.2 f = 0
            · rw [if_pos t] at hs
              rw [bd_t (cTree0 h hr w hK f0 q t), if_pos rfl]
              cases hf : frs D K.1.1 K.1.2 f (D 0 1) 0 with
              | none => rw [hf] at hs; cases hs
              | some r =>
                rw [hf] at hs
                cases hs
                obtain ⟨C', c1, c2⟩ := cRule1 h hr w hK q hk hf
                rw [bd_t c1, if_neg (show ¬ (1 : Int32) = 0 by decide)]
                exact ⟨C', rfl, c2⟩
            · rw [if_neg t] at hs
              cases hs
              obtain ⟨C', c1, c2⟩ := cTree1 h hr w hK f0 q t
              rw [bd_t c1, if_neg (show ¬ (1 : Int32) = 0 by decide)]
              exact ⟨C', rfl, c2⟩
      · rw [if_pos (nleI (by omega) (by omega) q), show D 0 0 - f = 0 by omega]
        rfl
  exact key FU 0 (Nat.zero_le _) (by unfold FU; omega)
end CDed3
