/-! ===== p39: a deed; the end; the beginning ===== -/
section LDone
variable {D : Dt} {i o : Nat} {C : St} {T : SC}
theorem many8 : ∀ x, x < 256 → pL_many (nI x) = some (nI (pop x)) := by decide +kernel
theorem lOk {r : Option (Int32 × St)} {m : Nat} (h : ∃ C', r = some (1, C') ∧ JX m C') : ∃ C', bd r (fun u => gd (okZ u.1) (some (u.1, u.2))) = some (1, C') ∧ JX m C' := by
  obtain ⟨C', h1, h2⟩ := h
  refine ⟨C', ?_, h2⟩
  rw [bd_t h1]
  exact gd_t (Or.inr rfl)
theorem lDone (hJ : JN D i o C) (hL : T.1 < 2 ^ 31) {k : Nat} (hk : k < 900) : ∃ C', pL_isDone T C (nI k) = some (1, C') ∧ JX (D 0 0) C' := by
  have hJ0 := hJ
  obtain ⟨hI, hN, h8⟩ := hJ
  have w := hI.1
  have n1 := w.n.1
  have r20 := w.r
  obtain ⟨e0, e1, e3, e4⟩ := hN.1
  obtain ⟨f, hf, q1⟩ := lIn hL (show k + 1 < 2 ^ 31 by omega) n1 (show D 0 0 < 2 ^ 31 by omega)
  obtain ⟨g, hg, q2⟩ := lIn hL (show k + 2 < 2 ^ 31 by omega) n1 (show D 0 0 < 2 ^ 31 by omega)
  obtain ⟨h, hh, q3⟩ := lIn hL (show k + 3 < 2 ^ 31 by omega) n1 (show D 0 0 < 2 ^ 31 by omega)
  obtain ⟨d, hd, q4⟩ := lIn hL (show k < 2 ^ 31 by omega) (show 1 ≤ 16 by decide) (by decide)
  obtain ⟨a3, ha3, q5⟩ := lIn hL (show k + 2 < 2 ^ 31 by omega) (show 1 ≤ 3 by decide) (by decide)
  obtain ⟨a4, ha4, q6⟩ := lIn hL (show k + 3 < 2 ^ 31 by omega) (show 1 ≤ 4 by decide) (by decide)
  obtain ⟨a5, ha5, q7⟩ := lIn hL (show k + 4 < 2 ^ 31 by omega) (show 1 ≤ 3 by decide) (by decide)
  obtain ⟨a6, ha6, q8⟩ := lIn hL (show k + 1 < 2 ^ 31 by omega) (show 1 ≤ D 0 1 + 1 by omega) (show D 0 1 + 1 < 2 ^ 31 by omega)
  obtain ⟨a7, ha7, q9⟩ := lIn hL (show k + 3 < 2 ^ 31 by omega) (show 1 ≤ 2 by decide) (by decide)
  have dec : ∀ b, ∃ C', pL_isDone_228 T C (nI f) (b2i b) = some (1, C') ∧ JX (D 0 0) C' := fun b => lOk (lDec hJ0 hf b)
  have man : ∀ b, ∃ C', pL_isDone_158 T C (nI f) (b2i b) = some (1, C') ∧ JX (D 0 0) C' := fun b => lOk (lMand hJ0 hf b)
  have decs : ∃ C', (bd (pL_in T (nI (k + 3)) 2) (fun r => if r = 0 then pL_isDone_228 T C (nI f) 1 else pL_isDone_228 T C (nI f) 0)) = some (1, C') ∧ JX (D 0 0) C' := by
    rw [bd_t (show pL_in T (nI (k + 3)) 2 = _ from q9)]
    by_cases z : nI a7 = 0
    · rw [if_pos z]; exact dec true
    · rw [if_neg z]; exact dec false
  have fea : ∃ C', (bd (pL_isFeature T C (nI (k + 1))) (fun u => gd (okZ u.1) (some (u.1, u.2)))) = some (1, C') ∧ JX (D 0 0) C' := lOk (lFeature hJ0 hL (by omega))
  have rul : ∃ C', (bd (pL_in T (nI (k + 4)) 3) (fun r_12 => bd (pL_in T (nI (k + 3)) (nI (D 0 0))) (fun r_13 => bd (pL_isRule C r_12 (nI f) (nI g) r_13) (fun u => gd (okZ u.1) (some (u.1, u.2)))))) = some (1, C') ∧ JX (D 0 0) C' := by
    rw [bd_t (show pL_in T (nI (k + 4)) 3 = _ from q7), bd_t q3]
    exact lOk (lRuleD hJ0 (by omega) hf hg hh)
  have ret : ∃ C', (bd (pL_isRetracted C (nI f)) (fun u => gd (okZ u.1) (some (u.1, u.2)))) = some (1, C') ∧ JX (D 0 0) C' := lOk (lRetr hJ0 hf)
  unfold pL_isDone
  simp only [gx0, gx1, gx3, gx4, z0c, z1c, z3c, z4c, e0, e1, e3, e4, p1c, p2c, p3c, p4c, ltv, nI_lor]
  rw [bd_t q1, bd_t q2, bd_t (show pL_in T (nI k) 16 = _ from q4)]
  rcases (show d = 0 ∨ d = 1 ∨ d = 2 ∨ d = 3 ∨ d = 4 ∨ d = 5 ∨ d = 6 ∨ d = 7 ∨ d = 8 ∨ d = 9 ∨ d = 10 ∨ d = 11 ∨ d = 12 ∨ d = 13 ∨ d = 14 ∨ d = 15 by omega) with q | q | q | q | q | q | q | q | q | q | q | q | q | q | q | q <;> subst q
  · rw [if_pos (by decide)]; exact fea
  · rw [if_neg (by decide), if_pos (by decide)]; exact fea
  · rw [if_neg (by decide), if_neg (by decide), if_pos (by decide)]; exact fea
  · rw [if_neg (by decide), if_neg (by decide), if_neg (by decide), if_pos (by decide), bd_t (show pL_in T (nI (k + 2)) 3 = _ from q5), bd_t (show pL_in T (nI (k + 3)) 4 = _ from q6)]
    exact lOk (lGroup hJ0 hf (by omega) (by omega))
  · rw [if_neg (by decide), if_neg (by decide), if_neg (by decide), if_neg (by decide), if_pos (by decide), bd_t (show pL_in T (nI (k + 2)) 3 = _ from q5)]
    by_cases z : nI a3 ≤ 0
    · rw [if_pos z]; exact man false
    · rw [if_neg z]; exact man true
  · iterate 5 rw [if_neg (by decide)]
    rw [if_pos (by decide)]; exact rul
  · iterate 6 rw [if_neg (by decide)]
    rw [if_pos (by decide)]; exact rul
  · iterate 7 rw [if_neg (by decide)]
    rw [if_pos (by decide)]; exact rul
  · iterate 8 rw [if_neg (by decide)]
    rw [if_pos (by decide), bd_t q8]
    exact lOk (lLift hJ0 (by omega))
  · iterate 9 rw [if_neg (by decide)]
    rw [if_pos (by decide)]; exact decs
  · iterate 10 rw [if_neg (by decide)]
    rw [if_pos (by decide)]; exact decs
  · iterate 11 rw [if_neg (by decide)]
    rw [if_pos (by decide)]; exact decs
  · iterate 12 rw [if_neg (by decide)]
    rw [if_pos (by decide)]; exact decs
  · iterate 13 rw [if_neg (by decide)]
    rw [if_pos (by decide)]; exact ret
  · iterate 14 rw [if_neg (by decide)]
    rw [if_pos (by decide)]; exact ret
  · iterate 15 rw [if_neg (by decide)]
    have hlt : i ||| o < 256 := Nat.lt_of_lt_of_le (Nat.or_lt_two_pow hI.2.1.1 hI.2.1.2) (show 2 ^ D 0 0 ≤ 2 ^ 8 from Nat.pow_le_pow_right (by decide) h8)
    have hA2 : Alk (sA (sA C 14 3 0) 14 4 0) C := Alk.rf.a14.a14
    have hN2 : NetR D 0 0 ((sA (sA C 14 3 0) 14 4 0).2 14) := (hN.setI 0).setO 0
    obtain ⟨C', c1, c2⟩ := oRetAll (hI.alk hA2)
    rw [bd_t (many8 _ hlt), bd_t c1, if_pos rfl]
    exact ⟨_, rfl, JN.back c2 hN2 h8 (Nat.le_refl _)⟩
/-- whether a set is right, by both -/
theorem lConf (hJ : JN D i o C) {S : Nat} (hS : S < 2 ^ D 0 0) : pL_isConfiguration C (nI S) = some (b2i (good D S), C) ∧ pL_isRight C (nI S) = some (b2i (good D S)) := by
  obtain ⟨⟨w, ⟨hi, ho⟩, _, hC⟩, hN, h8⟩ := hJ
  refine ⟨?_, lRight w hN hS⟩
  have e : pX6_isConfiguration C (nI S) = some (.inr (b2i (good D S))) := by
    unfold pX6_isConfiguration
    rcases setArg w (nI S) with ⟨S', hS', e, f1, _⟩ | ⟨f1, _⟩
    · rw [tb_t (f1 C i o hC), bd_t (cIsAllowed hC w hS)]
      exact gd_t (b2i_ok _)
    · have h0 : pX6_checkSet C (nI S) = some (.inr ()) := by
        have hp := p2le w
        unfold pX6_checkSet
        rw [if_neg (nI_pos (by omega)), bd_t (cAllF hC w), if_pos (nleI (by omega) (by omega) (by omega))]
      rw [f1 C i o hC] at h0
      cases h0
  have := wR_r (cd := cdL_isConfiguration) (f := fun r => if r = 0 then 0 else 1) (u := C) e
  refine (show pL_isConfiguration C (nI S) = _ from this).trans ?_
  cases good D S <;> rfl
/-- what the law asks last -/
def pEnd (C : St) (n : Int32) : Prop :=
  (pL_addFeature C n 0 = some (-900001, C) ∧ pL_addFeature C 0 (-1) = some (-900002, C) ∧ pL_setMandatory C n 1 = some (-900001, C) ∧ pL_setGroup C (-1) 0 0 = some (-900001, C) ∧ pL_setGroup C 0 (-1) 0 = some (-900002, C) ∧ pL_setGroup C 0 0 13 = some (-900002, C)) ∧
  (pL_require C 0 n = some (-900001, C) ∧ pL_exclude C (-1) 0 = some (-900001, C) ∧ pL_any C 0 0 n = some (-900001, C) ∧ pL_lift C (-1) = some (-900001, C)) ∧
  (pL_choose C n = some (-900001, C) ∧ pL_refuse C (-1) = some (-900001, C) ∧ pL_retract C n = some (-900001, C) ∧ pL_stateOf C (-1) = some (-900001, C) ∧ pL_stateByAll C n = some (-900001, C)) ∧
  (pL_isConfiguration C (-1) = some (-900001, C) ∧ pL_isConfiguration C ((1 : Int32) <<< (n &&& 31)) = some (-900001, C))
theorem lEnd (hJ : JN D i o C) : pEnd C (nI (D 0 0)) := by
  obtain ⟨hI, hN, h8⟩ := hJ
  obtain ⟨w, ⟨hi, ho⟩, _, hC⟩ := id hI
  have n1 := w.n.1
  have hp := p2le w
  have hn : ¬ ∃ f, f < D 0 0 ∧ nI (D 0 0) = nI f := fun ⟨f, h1, h2⟩ => by
    have := (nI_eq (by omega) (by omega)).mp h2
    omega
  have hm : ¬ ∃ f, f < D 0 0 ∧ (-1 : Int32) = nI f := fun ⟨f, h1, h2⟩ => by
    have h3 : (-1 : Int32) < 0 := by decide
    rw [h2] at h3
    exact nI_pos (by omega) h3
  have f0 : pX6_checkFeature C 0 = some (.inr ()) := oFeat (f := 0) w hC n1
  have fn := oNoF w hC hn
  have fm := oNoF w hC hm
  have sno : ∀ {x : Int32}, pX6_checkFeature C x = some (.inl 1) → pX6_stateOf C x = some (.inl 1) ∧ pX6_stateByAll C x = some (.inl 1) := fun h => by
    unfold pX6_stateOf pX6_stateByAll
    rw [tb_e h, tb_e h]
    exact ⟨rfl, rfl⟩
  have rq : pX6_require C 0 (nI (D 0 0)) = some (.inl (1, C)) := by
    unfold pX6_require
    rw [tb_t f0, tb_e fn]
  have ex : pX6_exclude C (-1) 0 = some (.inl (1, C)) := by
    unfold pX6_exclude
    rw [tb_e fm]
  have an : pX6_any C 0 0 (nI (D 0 0)) = some (.inl (1, C)) := by
    unfold pX6_any
    rw [tb_t f0, tb_t f0, tb_e fn]
  have cm : pX6_isConfiguration C (-1) = some (.inl 2) := by
    unfold pX6_isConfiguration pX6_checkSet pX6_checkSet_15
    rw [if_pos (show (-1 : Int32) < 0 by decide), tb_e rfl]
  have cn : pX6_isConfiguration C ((1 : Int32) <<< (nI (D 0 0) &&& 31)) = some (.inl 2) := by
    have h1 : 1 ≤ 2 ^ D 0 0 := Nat.one_le_two_pow
    unfold pX6_isConfiguration pX6_checkSet pX6_checkSet_15
    rw [shAll w, if_neg (nI_pos (by omega)), bd_t (cAllF hC w), if_neg (nleN (by omega) (by omega) (by omega)), tb_e rfl]
  exact ⟨⟨wW_e (oAddNo w hC hn) (by decide), wW_e (oAddNeg w hC) (by decide), wW_e (oMandNo w hC hn) (by decide), wW_e (oGroupNo w hC hm) (by decide), wW_e (oGroupNeg w hC) (by decide), wW_e (oGroup13 w hC) (by decide)⟩,
    ⟨wW_e rq (by decide), wW_e ex (by decide), wW_e an (by decide), wW_e oLiftNeg (by decide)⟩,
    ⟨wW_e (oDecNo w hC hn).1 (by decide), wW_e (oDecNo w hC hm).2 (by decide), wW_e (oRetNo w hC hn) (by decide), wR_e (sno fm).1 (by decide), wR_e (sno fn).2 (by decide)⟩,
    ⟨wR_e cm (by decide), wR_e cn (by decide)⟩⟩
end LDone
