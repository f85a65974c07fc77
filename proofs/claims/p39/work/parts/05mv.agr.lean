section Calls2
variable {D : Dt} {i o : Nat} {C M : St} {K : Kn}
theorem aUnknown (hI : InvD D i o C M) : AgrP (pX6_unknown C) (pX7_unknown M) := by
  have hI0 := hI
  obtain ⟨w, ⟨hi, ho⟩, hex, hC, hM⟩ := hI
  obtain ⟨M', Km, m1, m2, m3, m4, m5, m6⟩ := mUnknown (hM.thr 0) w hi ho
  obtain ⟨C', Kc, c1, c2, c3, c4, c5, c6⟩ := cUnknown hC w hi ho
  have e := Fin_uniq c2 m2
  subst e
  refine ⟨unV D Kc, C', M', ?_, ?_, ((hI0.c c3).m m3).inv⟩
  · unfold pX6_unknown
    rw [bd_t c1]
  · unfold pX7_unknown
    simp only [ltv]
    rw [bd_t m1]
theorem aShare (hI : InvD D i o C M) : AgrP (pX6_knownShare C) (pX7_knownShare M) := by
  have hI0 := hI
  obtain ⟨w, ⟨hi, ho⟩, hex, hC, hM⟩ := hI
  obtain ⟨M', Km, m1, m2, m3, m4⟩ := mShare hM w hi ho
  obtain ⟨C', Kc, c1, c2, c3⟩ := cShare hC w hi ho
  have e := Fin_uniq c2 m2
  subst e
  exact ⟨shV D Kc, C', M', c1, m1, ((hI0.c c3).m m3).inv⟩
theorem aMean (hI : InvD D i o C M) : AgrQ (pX6_meanPrice C) C (pX7_meanPrice M) := by
  have hI0 := hI
  obtain ⟨w, ⟨hi, ho⟩, hex, hC, hM⟩ := hI
  exact ⟨_, _, cMean hC w hi ho hex, mMean hM w hi ho hex, (hI0.m (hM.thr 0)).inv⟩
theorem aSound (hI : InvD D i o C M) : AgrP (pX6_isSound C) (pX7_isSound M) := by
  have hI0 := hI
  obtain ⟨w, ⟨hi, ho⟩, hex, hC, hM⟩ := hI
  obtain ⟨C', c1, c2⟩ := cSound hC w hi ho hex
  exact ⟨1, C', sS M 7 0, c1, rfl, ((hI0.c c2).m (hM.thr 0)).inv⟩
theorem aCount (hI : InvD D i o C M) : AgrQ (pX6_completions C) C (pX7_completions M) ∧ AgrQ (pX6_completionsByAll C) C (pX7_completionsByAll M) := by
  have hI0 := hI
  obtain ⟨w, ⟨hi, ho⟩, hex, hC, hM⟩ := hI
  have m := mCount9 hM w hi ho
  refine ⟨⟨_, _, cCount hC w hi ho, m, (hI0.m (hM.thr 0)).inv⟩, ⟨_, _, cCountAll hC w hi ho, ?_, (hI0.m (hM.thr 0)).inv⟩⟩
  unfold pX7_completionsByAll
  rw [bd_t m]
theorem aCheap (hI : InvD D i o C M) : AgrQ (pX6_cheapest C) C (pX7_cheapest M) ∧ AgrQ (pX6_cheapestByAll C) C (pX7_cheapestByAll M) := by
  have hI0 := hI
  obtain ⟨w, ⟨hi, ho⟩, hex, hC, hM⟩ := hI
  have m := mCheapest hM w hi ho
  refine ⟨⟨_, _, cCheapest hC w hi ho, m, (hI0.m (hM.thr 0)).inv⟩, ⟨_, _, cCheapestAll hC w hi ho, ?_, (hI0.m (hM.thr 0)).inv⟩⟩
  unfold pX7_cheapestByAll
  rw [bd_t m]
theorem setArg (w : WF D) (x : Int32) : (∃ S, S < 2 ^ D 0 0 ∧ x = nI S ∧ (∀ C i o, RelC D i o C → pX6_checkSet C x = some (.inr ())) ∧ ∀ M i o, RelM D i o M → pX7_isNoSet M x = some (0, sS M 7 0)) ∨ ((∀ C i o, RelC D i o C → pX6_checkSet C x = some (.inl 2)) ∧ ∀ M i o, RelM D i o M → pX7_isNoSet M x = some (1, sS M 7 1)) := by
  have hp := p2le w
  have h1 : 1 ≤ 2 ^ D 0 0 := Nat.one_le_two_pow
  rcases pk_ix x (show 2 ^ D 0 0 < 2 ^ 31 by omega) with h | h | ⟨S, hS, rfl⟩
  · refine Or.inr ⟨fun C i o hC => ?_, fun M i o hM => ?_⟩
    · unfold pX6_checkSet pX6_checkSet_15
      rw [if_pos h]
    · unfold pX7_isNoSet pX7_isNoSet_15 pX7_isNoSet_20
      rw [if_pos h, bd_t (mT1 M 1)]
      exact gd_t (Or.inr rfl)
  · have hh := ile.mp h
    rw [nI_toInt (by omega)] at hh
    have h0 : ¬ x < 0 := fun q => by
      have a := ilt.mp q
      have e0 : (0 : Int32).toInt = 0 := by decide
      omega
    refine Or.inr ⟨fun C i o hC => ?_, fun M i o hM => ?_⟩
    · unfold pX6_checkSet pX6_checkSet_15
      rw [if_neg h0, bd_t (cAllF hC w), if_neg (fun q => by
        have a := ile.mp q
        rw [nI_toInt (by omega)] at a; omega)]
    · unfold pX7_isNoSet pX7_isNoSet_15 pX7_isNoSet_20
      rw [if_neg h0, hM.n, shAll w, if_neg (fun q => by
        have a := ilt.mp q
        rw [nI_toInt (by omega)] at a; omega), bd_t (mT1 M 1)]
      exact gd_t (Or.inr rfl)
  · refine Or.inl ⟨S, hS, rfl, fun C i o hC => ?_, fun M i o hM => ?_⟩
    · unfold pX6_checkSet
      rw [if_neg (nI_pos (by omega)), bd_t (cAllF hC w), if_pos (nleI (by omega) (by omega) (by omega))]
    · unfold pX7_isNoSet pX7_isNoSet_20
      rw [if_neg (nI_pos (by omega)), hM.n, shAll w, if_pos (nltI (by omega) (by omega) hS), bd_t (mT0 M 1)]
      exact gd_t (Or.inl rfl)
theorem aConf (hI : InvD D i o C M) (x : Int32) : AgrR (fun k => if k = 2 then 1 else 0) (pX6_isConfiguration C x) C (pX7_isConfiguration M x) := by
  have hI0 := hI
  obtain ⟨w, ⟨hi, ho⟩, hex, hC, hM⟩ := hI
  rcases setArg w x with ⟨S, hS, rfl, f1, f2⟩ | ⟨f1, f2⟩
  · refine ⟨b2i (good D S), sS M 7 0, ?_, (hI0.m (hM.thr 0)).inv, Or.inr ⟨?_, sS_eq⟩⟩
    · unfold pX7_isConfiguration
      rw [bd_t (f2 M i o hM), if_pos rfl, bd_t (mGood (hM.thr 0) w (p12 hS w.n.2))]
      cases good D S <;> rfl
    · unfold pX6_isConfiguration
      rw [tb_t (f1 C i o hC), bd_t (cIsAllowed hC w hS)]
      exact gd_t (b2i_ok _)
  · refine ⟨0, sS M 7 1, ?_, (hI0.m (hM.thr 1)).inv, Or.inl ⟨2, ?_, by decide, sS_eq⟩⟩
    · unfold pX7_isConfiguration
      rw [bd_t (f2 M i o hM), if_neg (show ¬ (1 : Int32) = 0 by decide)]
    · unfold pX6_isConfiguration
      rw [tb_e (f1 C i o hC)]
theorem aPrice (hI : InvD D i o C M) (x : Int32) : AgrR (fun k => if k = 2 then 1 else 0) (pX6_price C x) C (pX7_price M x) := by
  have hI0 := hI
  obtain ⟨w, ⟨hi, ho⟩, hex, hC, hM⟩ := hI
  rcases setArg w x with ⟨S, hS, rfl, f1, f2⟩ | ⟨f1, f2⟩
  · refine ⟨priceI D S, sS M 7 0, ?_, (hI0.m (hM.thr 0)).inv, Or.inr ⟨?_, sS_eq⟩⟩
    · unfold pX7_price
      rw [bd_t (f2 M i o hM), if_pos rfl, bd_t (mPrice (hM.thr 0) w hS)]
    · unfold pX6_price
      rw [tb_t (f1 C i o hC), bd_t (cPrice hC w hS)]
  · refine ⟨0, sS M 7 1, ?_, (hI0.m (hM.thr 1)).inv, Or.inl ⟨2, ?_, by decide, sS_eq⟩⟩
    · unfold pX7_price
      rw [bd_t (f2 M i o hM), if_neg (show ¬ (1 : Int32) = 0 by decide)]
    · unfold pX6_price
      rw [tb_e (f1 C i o hC)]
theorem mNoWish (hM : RelM D i o M) (w : WF D) (hi : i < 2 ^ D 0 0) (ho : o < 2 ^ D 0 0) {f : Nat} (hf : f < D 0 0) (b : Bool) (k : Int32) : pX7_isNoWish M (nI f) (b2i b) k = (match wrs D i o f b with
    | none => some (1, sS M 7 k)
    | some _ => some (0, sS M 7 0)) := by
  unfold pX7_isNoWish pX7_isNoWish_15
  rw [bd_t (mWrong hM w hi ho hf b)]
  cases q : wrs D i o f b with
  | none =>
    rw [if_neg (show ¬ (0 : Int32) ≤ oI none by decide), bd_t (mT1 M k)]
    exact gd_t (Or.inr rfl)
  | some x =>
    have hx := p12 (wrTo_lt hi ho _ x q) w.n.2
    rw [if_pos (show (0 : Int32) ≤ oI (some x) from nI_pos' (by omega)), bd_t (mT0 M k)]
    exact gd_t (Or.inl rfl)
theorem aFewest (hI : InvD D i o C M) (x : Int32) (b : Bool) : AgrR (fun k => if k = 1 then 1 else if k = 5 then 2 else 0) (pX6_fewest C x (b2i b)) C (pX7_fewest M x (b2i b)) ∧ AgrR (fun k => if k = 1 then 1 else if k = 5 then 2 else 0) (pX6_toRetract C x (b2i b)) C (pX7_toRetract M x (b2i b)) := by
  have hI0 := hI
  obtain ⟨w, ⟨hi, ho⟩, hex, hC, hM⟩ := hI
  rcases feat w x with ⟨f, hf, rfl, f1, f2⟩ | ⟨f1, f2⟩
  · have ca := cAgainst hC w hi ho hf b
    have h1 := hM.thr 0
    have mn := mNoWish h1 w hi ho hf b 2
    have I1 := fun v => (hI0.m (h1.thr v)).inv
    unfold pX6_fewest pX6_toRetract pX7_fewest pX7_toRetract
    rw [tb_t (f1 C i o hC), tb_t (f1 C i o hC), bd_t (f2 M i o hM), bd_t (f2 M i o hM), bd_t (mT0 M 1), bd_t (mT0 M 1), if_pos rfl, if_pos rfl]
    cases q : wrs D i o f b with
    | none =>
      rw [q] at ca mn
      rw [tb_e ca, tb_e ca, bd_t (show pX7_isNoWish (sS M 7 0) (nI f) (b2i b) 2 = _ from mn), bd_t (show pX7_isNoWish (sS M 7 0) (nI f) (b2i b) 2 = _ from mn), if_neg (show ¬ (1 : Int32) = 0 by decide), if_neg (show ¬ (1 : Int32) = 0 by decide)]
      exact ⟨⟨_, _, rfl, I1 2, Or.inl ⟨5, rfl, by decide, sS_eq⟩⟩, ⟨_, _, rfl, I1 2, Or.inl ⟨5, rfl, by decide, sS_eq⟩⟩⟩
    | some y =>
      rw [q] at ca mn
      have hy := p12 (wrTo_lt hi ho _ y q) w.n.2
      have mw := mWrong (h1.thr 0) w hi ho hf b
      rw [q] at mw
      rw [tb_t ca, tb_t ca, bd_t (show pX7_isNoWish (sS M 7 0) (nI f) (b2i b) 2 = _ from mn), bd_t (show pX7_isNoWish (sS M 7 0) (nI f) (b2i b) 2 = _ from mn), if_pos rfl, if_pos rfl, bd_t (show pX7_wrong (sS (sS M 7 0) 7 0) (nI f) (b2i b) = _ from mw), bd_t (show pX7_wrong (sS (sS M 7 0) 7 0) (nI f) (b2i b) = _ from mw), bd_t (bitP hy), show oI (some y) = nI y from rfl, bd_t (bitP hy)]
      exact ⟨⟨_, _, rfl, I1 0, Or.inr ⟨rfl, sS_eq⟩⟩, ⟨_, _, rfl, I1 0, Or.inr ⟨rfl, sS_eq⟩⟩⟩
  · unfold pX6_fewest pX6_toRetract pX7_fewest pX7_toRetract
    rw [tb_e (f1 C i o hC), tb_e (f1 C i o hC), bd_t (f2 M i o hM), bd_t (f2 M i o hM), bd_t (mT1 M 1), bd_t (mT1 M 1), if_neg (show ¬ (1 : Int32) = 0 by decide), if_neg (show ¬ (1 : Int32) = 0 by decide)]
    exact ⟨⟨_, _, rfl, (hI0.m (hM.thr 1)).inv, Or.inl ⟨1, rfl, by decide, sS_eq⟩⟩, ⟨_, _, rfl, (hI0.m (hM.thr 1)).inv, Or.inl ⟨1, rfl, by decide, sS_eq⟩⟩⟩
end Calls2
