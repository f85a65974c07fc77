section Obs
variable {D : Dt} {i o : Nat} {C M : St} {K : Kn}
def unV (D : Dt) (K : Kn) : Int32 := nI (D 0 0) - nI (pop (K.1.1 ||| K.1.2))
theorem kn_lt (hK : okK D K) : K.1.1 ||| K.1.2 < 2 ^ D 0 0 := Nat.or_lt_two_pow hK.1.1 hK.1.2
theorem cUnknown (h : RelC D i o C) (w : WF D) (hi : i < 2 ^ D 0 0) (ho : o < 2 ^ D 0 0) : ∃ C' K', pX6_countUnknown C = some (unV D K', C') ∧ Fin D (K0 i o) K' ∧ RelC D i o C' ∧ RepC D K' C' ∧ okK D K' ∧ lnS C C' := by
  obtain ⟨C', K', d1, d2, d3, d4, d5, d6⟩ := cDeduce h w hi ho
  refine ⟨C', K', ?_, d2, d3, d4, d5, d6⟩
  unfold pX6_countUnknown
  rw [bd_t d1, d4.1.1, d4.1.2, nI_lor, bd_t (bitP (p12 (kn_lt d5) w.n.2)), d3.n]
  rfl
theorem mUnknown (h : RelM D i o M) (w : WF D) (hi : i < 2 ^ D 0 0) (ho : o < 2 ^ D 0 0) : ∃ M' K', pX7_unknowns M = some (unV D K', M') ∧ Fin D (K0 i o) K' ∧ RelM D i o M' ∧ RepM D K' M' ∧ okK D K' ∧ M'.1 7 = M.1 7 := by
  obtain ⟨M', K', d1, d2, d3, d4, d5, d6⟩ := mDeduces h w hi ho
  refine ⟨M', K', ?_, d2, d3, d4, d5, d6⟩
  unfold pX7_unknowns
  rw [bd_t d1, d4.1.1, d4.1.2, nI_lor, bd_t (bitP (p12 (kn_lt d5) w.n.2)), d3.n]
  rfl
theorem share_ok : ∀ n, n < 12 → ∀ k, k < 13 → okN32 (FP.fdiv (FP.i2f (nI (n + 1) - (nI (n + 1) - nI k))) (FP.i2f (nI (n + 1)))) := by decide +kernel
def shV (D : Dt) (K : Kn) : UInt32 := FP.fdiv (FP.i2f (nI (D 0 0) - unV D K)) (FP.i2f (nI (D 0 0)))
theorem shV_ok (w : WF D) : okN32 (shV D K) := by
  obtain ⟨n1, n2⟩ := w.n
  have hp := pop_le (K.1.1 ||| K.1.2)
  have := share_ok (D 0 0 - 1) (by omega) (pop (K.1.1 ||| K.1.2)) (by omega)
  rw [show D 0 0 - 1 + 1 = D 0 0 by omega] at this
  exact this
theorem cShare (h : RelC D i o C) (w : WF D) (hi : i < 2 ^ D 0 0) (ho : o < 2 ^ D 0 0) : ∃ C' K', pX6_knownShare C = some (shV D K', C') ∧ Fin D (K0 i o) K' ∧ RelC D i o C' := by
  obtain ⟨C', K', d1, d2, d3, d4, d5, d6⟩ := cUnknown h w hi ho
  refine ⟨C', K', ?_, d2, d3⟩
  unfold pX6_knownShare
  have n1 := w.n
  have hz : ¬ nI (D 0 0) ≤ 0 := nleN (b := 0) (by omega) (by decide) (by omega)
  simp only [ltv]
  rw [bd_t d1, h.n, if_neg hz]
  exact gd_t (shV_ok w)
theorem mShare (h : RelM D i o M) (w : WF D) (hi : i < 2 ^ D 0 0) (ho : o < 2 ^ D 0 0) : ∃ M' K', pX7_knownShare M = some (shV D K', M') ∧ Fin D (K0 i o) K' ∧ RelM D i o M' ∧ M'.1 7 = 0 := by
  obtain ⟨M', K', d1, d2, d3, d4, d5, d6⟩ := mUnknown (h.thr 0) w hi ho
  refine ⟨M', K', ?_, d2, d3, d6.trans sS_eq⟩
  unfold pX7_knownShare
  simp only [ltv]
  rw [bd_t d1, (h.thr 0).n, d3.n]
  exact gd_t (shV_ok w)
theorem cStatesAgree (h : RelC D i o C) (w : WF D) (hi : i < 2 ^ D 0 0) (ho : o < 2 ^ D 0 0) : pX6_statesAgree C (nI (fo (cmpl D i o) (fun x S => x &&& S) (2 ^ D 0 0 - 1) (2 ^ D 0 0))) (nI (fo (cmpl D i o) (fun x S => x ||| S) 0 (2 ^ D 0 0))) = some 1 := by
  obtain ⟨n1, n2⟩ := w.n
  have q31 : ∀ {x : Nat}, x < 2 ^ D 0 0 → x < 2 ^ 31 := fun hx => Nat.lt_of_lt_of_le (p12 hx n2) (by decide)
  have h1 : 1 ≤ 2 ^ D 0 0 := Nat.one_le_two_pow
  have bS : fo (cmpl D i o) (fun x S => x ||| S) 0 (2 ^ D 0 0) < 2 ^ D 0 0 := fo_or (Nat.two_pow_pos _) _ (Nat.le_refl _)
  have bA : fo (cmpl D i o) (fun x S => x &&& S) (2 ^ D 0 0 - 1) (2 ^ D 0 0) < 2 ^ D 0 0 := fo_and (by omega) _ (Nat.le_refl _)
  unfold pX6_statesAgree
  refine loopF (F := fun N k => pX6_statesAgree_2 N C (nI (fo (cmpl D i o) (fun x S => x &&& S) (2 ^ D 0 0 - 1) (2 ^ D 0 0))) (nI (fo (cmpl D i o) (fun x S => x ||| S) 0 (2 ^ D 0 0))) (nI k)) (m := D 0 0) (fun N => ?_) (fun N f hf => Or.inl ?_) FU 0 (Nat.zero_le _) (by unfold FU; omega)
  · show pX6_statesAgree_2_b (pX6_statesAgree_2 N) C _ _ (nI (D 0 0)) = _
    unfold pX6_statesAgree_2_b
    rw [h.n, if_pos (nleI (by omega) (by omega) (Nat.le_refl _))]
  · show pX6_statesAgree_2_b (pX6_statesAgree_2 N) C _ _ (nI f) = pX6_statesAgree_2 N C _ _ (nI (f + 1))
    have sa := cStateAll h w hi ho hf
    have hcf : pX6_checkFeature C (nI f) = some (.inr ()) := by
      unfold pX6_checkFeature
      rw [if_neg (nI_pos (by omega)), h.n, if_pos (nltI (by omega) (by omega) hf)]
    unfold pX6_stateByAll pX6_stateByAll_30 at sa
    rw [tb_t hcf, bd_t (cInSome h w hi ho), bd_t (cHas C (q31 bS) (by omega)), bd_t (cInAll h w hi ho), bd_t (cHas C (q31 bA) (by omega))] at sa
    unfold pX6_statesAgree_2_b pX6_statesAgree_33
    rw [h.n, if_neg (nleN (by omega) (by omega) hf), bd_t (cHas C (q31 bS) (by omega)), bd_t (cHas C (q31 bA) (by omega))]
    simp only [tn_t (cState h w hi ho hf)]
    have l := fun b => cLetter h w hi ho hf ((fo (cmpl D i o) (fun x S => x ||| S) 0 (2 ^ D 0 0)).testBit f) b
    have go : ∀ b, bd (pX6_stateLetter C (nI f) (b2i ((fo (cmpl D i o) (fun x S => x ||| S) 0 (2 ^ D 0 0)).testBit f)) (b2i b)) (fun r_6 => gd (okC r_6) (some ((.inr r_6 : Nat ⊕ Int32)))) = some (.inr (stL D i o f)) → bd (pX6_stateLetter C (nI f) (b2i ((fo (cmpl D i o) (fun x S => x ||| S) 0 (2 ^ D 0 0)).testBit f)) (b2i b)) (fun r_4 => if stL D i o f = r_4 then ltv (nI f + 1) (fun v_5 => pX6_statesAgree_2 N C (nI (fo (cmpl D i o) (fun x S => x &&& S) (2 ^ D 0 0 - 1) (2 ^ D 0 0))) (nI (fo (cmpl D i o) (fun x S => x ||| S) 0 (2 ^ D 0 0))) v_5) else some 0) = pX6_statesAgree_2 N C (nI (fo (cmpl D i o) (fun x S => x &&& S) (2 ^ D 0 0 - 1) (2 ^ D 0 0))) (nI (fo (cmpl D i o) (fun x S => x ||| S) 0 (2 ^ D 0 0))) (nI (f + 1)) := fun b hb => by
      rw [bd_t (l b)] at hb ⊢
      obtain ⟨-, hb⟩ := gd_ex hb
      have hb : (if i.testBit f then (99 : Int32) else if o.testBit f then 114 else if (fo (cmpl D i o) (fun x S => x ||| S) 0 (2 ^ D 0 0)).testBit f then (if b then 111 else 97) else 120) = stL D i o f := by
        injection hb with hb
        injection hb
      rw [hb, if_pos rfl]
      simp only [ltv, nI_1]
    cases z : (fo (cmpl D i o) (fun x S => x &&& S) (2 ^ D 0 0 - 1) (2 ^ D 0 0)).testBit f with
    | true =>
      rw [z, if_neg (show ¬ b2i true = 0 by decide)] at sa
      rw [if_neg (show ¬ b2i true = 0 by decide)]
      exact go false sa
    | false =>
      rw [z, if_pos (show b2i false = 0 from rfl)] at sa
      rw [if_pos (show b2i false = 0 from rfl)]
      exact go true sa
theorem cSound (h : RelC D i o C) (w : WF D) (hi : i < 2 ^ D 0 0) (ho : o < 2 ^ D 0 0) (hex : ∃ S, S < 2 ^ D 0 0 ∧ cmpl D i o S = true) : ∃ C', pX6_isSound C = some (1, C') ∧ RelC D i o C' := by
  obtain ⟨n1, n2⟩ := w.n
  have hp := p2le w
  have q31 : ∀ {x : Nat}, x < 2 ^ D 0 0 → x < 2 ^ 31 := fun hx => Nat.lt_of_lt_of_le (p12 hx n2) (by decide)
  have h1 : 1 ≤ 2 ^ D 0 0 := Nat.one_le_two_pow
  have hc := ct_le (cmpl D i o) (2 ^ D 0 0)
  have hc0 : ct (cmpl D i o) (2 ^ D 0 0) ≠ 0 := fun z => by
    obtain ⟨S, s1, s2⟩ := hex
    rw [ct_eq0.mp z S s1] at s2; cases s2
  have hlg : ¬ lg_cmp (lN (ct (cmpl D i o) (2 ^ D 0 0))) 0 ≤ 0 := by
    unfold lg_cmp
    rw [if_pos (show lN (ct (cmpl D i o) (2 ^ D 0 0)) > 0 from (lN_lt (a := 0) (by decide) (by omega)).mpr (by omega))]
    decide
  have hlg2 : lg_cmp (lN (ct (cmpl D i o) (2 ^ D 0 0))) (lN (ct (cmpl D i o) (2 ^ D 0 0))) = 0 := by
    unfold lg_cmp
    rw [if_neg (fun z => by have := (lN_lt (by omega) (by omega)).mp z; omega), if_pos rfl]
  obtain ⟨C', K', d1, d2, d3, d4, d5, d6⟩ := cDeduce h w hi ho
  have hs := snd_Fin w hi ho d2
  have bS : fo (cmpl D i o) (fun x S => x ||| S) 0 (2 ^ D 0 0) < 2 ^ D 0 0 := fo_or (Nat.two_pow_pos _) _ (Nat.le_refl _)
  have bA : fo (cmpl D i o) (fun x S => x &&& S) (2 ^ D 0 0 - 1) (2 ^ D 0 0) < 2 ^ D 0 0 := fo_and (by omega) _ (Nat.le_refl _)
  have k1 : adn K'.1.1 (fo (cmpl D i o) (fun x S => x &&& S) (2 ^ D 0 0 - 1) (2 ^ D 0 0)) = 0 := by
    rw [zero_all]
    intro j
    rw [adn_tb]
    cases z : K'.1.1.testBit j with
    | false => rfl
    | true =>
      have hj : j < D 0 0 := by
        rcases Nat.lt_or_ge j (D 0 0) with q | q
        · exact q
        · rw [tb_lt d5.1.1 q] at z; cases z
      rw [fo_and_tb.mpr ⟨by rw [Nat.testBit_two_pow_sub_one]; simpa using hj, fun S hS q => (hs S hS q).1 j z⟩]
      rfl
  have k2 : K'.1.2 &&& fo (cmpl D i o) (fun x S => x ||| S) 0 (2 ^ D 0 0) = 0 := by
    rw [zero_all]
    intro j
    rw [Nat.testBit_and]
    cases z : K'.1.2.testBit j with
    | false => rfl
    | true =>
      cases y : (fo (cmpl D i o) (fun x S => x ||| S) 0 (2 ^ D 0 0)).testBit j with
      | false => rfl
      | true =>
        obtain ⟨S, s1, s2, s3⟩ := fo_or_tb.mp y
        rw [(hs S s1 s2).2 j z] at s3; cases s3
  refine ⟨C', ?_, d3⟩
  unfold pX6_isSound pX6_knowledgeAgrees
  rw [bd_t (cCount h w hi ho), bd_t (cInAll h w hi ho), bd_t (cInSome h w hi ho), if_neg hlg, bd_t (cCountAll h w hi ho), if_pos hlg2, bd_t (cCheapest h w hi ho), bd_t (cCheapestAll h w hi ho), if_pos rfl, bd_t (cStatesAgree h w hi ho), if_neg (show ¬ (1 : Int32) = 0 by decide), bd_t d1, d4.1.1, d4.1.2, nI_adn, nI_land, k1, k2]
  rfl
end Obs
