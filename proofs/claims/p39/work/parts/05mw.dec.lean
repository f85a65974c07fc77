section Dec
variable {D : Dt} {i o : Nat} {C M : St} {K : Kn}
theorem RelC.setI (h : RelC D i o C) (i' : Nat) : RelC D i' o (sS C 0 (nI i')) := by
  refine ⟨⟨sS_eq, ?_⟩, h.2⟩
  rw [sS_ne (by decide), sS_ne (by decide), sS_ne (by decide), sS_ne (by decide), sS_ne (by decide), sS_ne (by decide)]
  exact h.1.2
theorem RelC.setO (h : RelC D i o C) (o' : Nat) : RelC D i o' (sS C 1 (nI o')) := by
  refine ⟨⟨?_, sS_eq, ?_⟩, h.2⟩
  · rw [sS_ne (by decide)]; exact h.1.1
  · rw [sS_ne (by decide), sS_ne (by decide), sS_ne (by decide), sS_ne (by decide), sS_ne (by decide)]
    exact h.1.2.2
theorem RelM.setI (h : RelM D i o M) (i' : Nat) : RelM D i' o (sS M 3 (nI i')) := by
  refine ⟨⟨?_, ?_, ?_, sS_eq, ?_⟩, h.2⟩
  · rw [sS_ne (by decide)]; exact h.n
  · rw [sS_ne (by decide)]; exact h.r
  · rw [sS_ne (by decide)]; exact h.la
  · rw [sS_ne (by decide)]; exact h.co
theorem RelM.setO (h : RelM D i o M) (o' : Nat) : RelM D i o' (sS M 4 (nI o')) := by
  refine ⟨⟨?_, ?_, ?_, ?_, sS_eq⟩, h.2⟩
  · rw [sS_ne (by decide)]; exact h.n
  · rw [sS_ne (by decide)]; exact h.r
  · rw [sS_ne (by decide)]; exact h.la
  · rw [sS_ne (by decide)]; exact h.ci
theorem adn_undo {x f : Nat} (h : x.testBit f = false) : adn (x ||| 2 ^ f) (2 ^ f) = x := by
  refine Nat.eq_of_testBit_eq fun j => ?_
  rw [adn_tb, Nat.testBit_or, tb_pow]
  by_cases q : f = j
  · rw [← q, h, decide_eq_true rfl]; rfl
  · rw [decide_eq_false q]; simp
theorem adn_not {x f : Nat} (h : x.testBit f = false) : adn x (2 ^ f) = x := by
  refine Nat.eq_of_testBit_eq fun j => ?_
  rw [adn_tb, tb_pow]
  by_cases q : f = j
  · rw [← q, h]; rfl
  · rw [decide_eq_false q]; simp
theorem or0I (x : Int32) : x ||| 0 = x := Int32.or_zero
/-- the model's deciding -/
theorem mDecides (hM : RelM D i o M) (w : WF D) (hi : i < 2 ^ D 0 0) (ho : o < 2 ^ D 0 0) {f : Nat} (hf : f < D 0 0) (f2 : ∀ M i o, RelM D i o M → pX7_isNone M (nI f) = some 0) (b : Bool) :
    (f = 0 → pX7_decides M (nI f) (b2i b) = some (0, sS (sS M 7 0) 7 2)) ∧
    (f ≠ 0 → (i ||| o).testBit f = true → ∃ M', pX7_decides M (nI f) (b2i b) = some (0, M') ∧ RelM D i o M' ∧ M'.1 7 = 3) ∧
    (f ≠ 0 → (i ||| o).testBit f = false → (¬ ∃ S, S < 2 ^ D 0 0 ∧ cmpl D (if b then i ||| 2 ^ f else i) (if b then o else o ||| 2 ^ f) S = true) → ∃ M' v, pX7_decides M (nI f) (b2i b) = some (v, M') ∧ RelM D i o M' ∧ M'.1 7 = 4) ∧
    (f ≠ 0 → (i ||| o).testBit f = false → (∃ S, S < 2 ^ D 0 0 ∧ cmpl D (if b then i ||| 2 ^ f else i) (if b then o else o ||| 2 ^ f) S = true) → ∃ M' K', pX7_decides M (nI f) (b2i b) = some (unV D K', M') ∧ Fin D (K0 (if b then i ||| 2 ^ f else i) (if b then o else o ||| 2 ^ f)) K' ∧ RelM D (if b then i ||| 2 ^ f else i) (if b then o else o ||| 2 ^ f) M' ∧ M'.1 7 = 0) := by
  obtain ⟨n1, n2⟩ := w.n
  have q31 : ∀ {x : Nat}, x < 2 ^ D 0 0 → x < 2 ^ 31 := fun hx => Nat.lt_of_lt_of_le (p12 hx n2) (by decide)
  have hpf : 2 ^ f < 2 ^ D 0 0 := Nat.pow_lt_pow_right (by decide) hf
  have e0 : pX7_decides M (nI f) (b2i b) = if nI f = 0 then pX7_decides_23 (sS M 7 0) (nI f) (b2i b) 1 else pX7_decides_23 (sS M 7 0) (nI f) (b2i b) 0 := by
    unfold pX7_decides
    rw [bd_t (f2 M i o hM), bd_t (mT0 M 1), if_pos rfl]
  have h1 := hM.thr 0
  have h2 := h1.thr 0
  have isd : ∀ M, RelM D i o M → pX7_isDecided M (nI f) = some (b2i ((i ||| o).testBit f)) := fun M h => by
    unfold pX7_isDecided
    rw [h.ci, h.co, nI_lor, bd_t (mHas M (q31 (Nat.or_lt_two_pow hi ho)) (by omega)), gd_t (b2i_ok _)]
  refine ⟨fun z => ?_, fun z y => ?_, fun z y hn => ?_, fun z y hn => ?_⟩
  · rw [e0, if_pos (by rw [z]; rfl)]
    unfold pX7_decides_23
    rw [bd_t (mT1 (sS M 7 0) 2), if_neg (show ¬ (1 : Int32) = 0 by decide)]
  · rw [e0, if_neg (fun q => by have := (nI0 (by omega)).mp q; omega)]
    unfold pX7_decides_23
    rw [bd_t (mT0 (sS M 7 0) 2), if_pos rfl, bd_t (isd _ h2), y, bd_t (mThr (sS (sS M 7 0) 7 0) true 3), if_neg (show ¬ b2i true = 0 by decide)]
    exact ⟨_, rfl, h2.thr 3, sS_eq⟩
  all_goals
    have h3 := h2.thr 0
    have yi : i.testBit f = false ∧ o.testBit f = false := by
      rw [Nat.testBit_or] at y
      cases q : i.testBit f <;> cases r : o.testBit f <;> simp_all
    have hi' : (if b then i ||| 2 ^ f else i) < 2 ^ D 0 0 := by
      cases b
      · exact hi
      · exact Nat.or_lt_two_pow hi hpf
    have ho' : (if b then o else o ||| 2 ^ f) < 2 ^ D 0 0 := by
      cases b
      · exact Nat.or_lt_two_pow ho hpf
      · exact ho
    have e1 : pX7_decides M (nI f) (b2i b) = (fun M7 => bd (pX7_isNoneLeft M7) (fun r_8 => bd (pX7_isThrown M7 r_8 4) (fun u_9 => if (u_9.1) = 0 then pX7_decides_125 u_9.2 else ltv (sS u_9.2 3 ((u_9.2.1 3) &&& (((1 : Int32) <<< (nI f &&& 31)) ^^^ (-1)))) (fun C_11 => ltv (sS C_11 4 ((C_11.1 4) &&& (((1 : Int32) <<< (nI f &&& 31)) ^^^ (-1)))) (fun C_12 => pX7_decides_125 C_12))))) (sS (sS (sS (sS (sS M 7 0) 7 0) 7 0) 3 (nI (if b then i ||| 2 ^ f else i))) 4 (nI (if b then o else o ||| 2 ^ f))) := by
      rw [e0, if_neg (fun q => by have := (nI0 (by omega)).mp q; omega)]
      unfold pX7_decides_23
      rw [bd_t (mT0 (sS M 7 0) 2), if_pos rfl, bd_t (isd _ h2), y, bd_t (mThr (sS (sS M 7 0) 7 0) false 3), if_pos (show b2i false = 0 from rfl)]
      unfold pX7_decides_61 pX7_decides_81
      have e3 : (sS (sS (sS M 7 0) 7 0) 7 0).1 3 = nI i := h3.ci
      have e4 : ∀ v, (sS (sS (sS (sS M 7 0) 7 0) 7 0) 3 v).1 4 = nI o := fun v => by rw [sS_ne (by decide)]; exact h3.co
      show (if b2i b = 0 then _ else _) = _
      simp only [ltv, if_false, Bool.false_eq_true, e3, e4, nI_sh f (show f < 31 by omega), nI_lor, or0I]
      cases b <;> rfl
    have h7 : RelM D (if b then i ||| 2 ^ f else i) (if b then o else o ||| 2 ^ f) (sS (sS (sS (sS (sS M 7 0) 7 0) 7 0) 3 (nI (if b then i ||| 2 ^ f else i))) 4 (nI (if b then o else o ||| 2 ^ f))) := (h3.setI _).setO _
    rw [e1]
    generalize sS (sS (sS (sS (sS M 7 0) 7 0) 7 0) 3 (nI (if b then i ||| 2 ^ f else i))) 4 (nI (if b then o else o ||| 2 ^ f)) = M7 at h7 ⊢
    obtain ⟨c, c1, c2⟩ := mNoneLeft h7 w (p12 hi' n2) (p12 ho' n2)
    show ∃ M' _, bd (pX7_isNoneLeft M7) _ = _ ∧ _
    rw [bd_t c1, bd_t (mThr M7 c 4)]
  · have hc : c = true := by
      cases q : c with
      | true => rfl
      | false => exact absurd (c2.mp q) hn
    rw [hc, if_neg (show ¬ b2i true = 0 by decide)]
    have ek : (sS M7 7 4).1 3 = nI (if b then i ||| 2 ^ f else i) := (h7.thr 4).ci
    have h8 : RelM D i o (sS (sS (sS M7 7 4) 3 (nI i)) 4 (nI o)) := ((h7.thr 4).setI i).setO o
    obtain ⟨M', Kk, m1, m2, m3, m4, m5, m6⟩ := mUnknown h8 w hi ho
    have er1 : adn (if b then i ||| 2 ^ f else i) (2 ^ f) = i := by
      cases b
      · exact adn_not yi.1
      · exact adn_undo yi.1
    have er2 : adn (if b then o else o ||| 2 ^ f) (2 ^ f) = o := by
      cases b
      · exact adn_undo yi.2
      · exact adn_not yi.2
    have eo : ∀ v, (sS (sS M7 7 4) 3 v).1 4 = nI (if b then o else o ||| 2 ^ f) := fun v => by rw [sS_ne (by decide)]; exact (h7.thr 4).co
    simp only [ltv, if_true, ek, eo, nI_sh f (show f < 31 by omega), nI_adn, er1, er2]
    unfold pX7_decides_125
    rw [bd_t m1]
    refine ⟨M', _, rfl, m3, m6.trans ?_⟩
    rw [sS_ne (by decide), sS_ne (by decide)]; exact sS_eq
  · have hc : c = false := c2.mpr hn
    rw [hc, if_pos (show b2i false = 0 from rfl)]
    obtain ⟨M', Kk, m1, m2, m3, m4, m5, m6⟩ := mUnknown (h7.thr 0) w hi' ho'
    unfold pX7_decides_125
    show ∃ M' K', bd (pX7_unknowns (sS M7 7 0)) _ = _ ∧ _
    rw [bd_t m1]
    exact ⟨M', Kk, rfl, m2, m3, m6.trans sS_eq⟩
def cdD (k : Nat) : Nat := if k = 1 then 1 else if k = 2 then 2 else if k = 3 then 3 else if k = 4 then 4 else 0
theorem aDecide (hI : InvD D i o C M) (x : Int32) : Agr cdD (pX6_choose C x) (pX7_choose M x) ∧ Agr cdD (pX6_refuse C x) (pX7_refuse M x) := by
  have hI0 := hI
  obtain ⟨w, ⟨hi, ho⟩, hex, hC, hM⟩ := hI
  obtain ⟨n1, n2⟩ := w.n
  have q31 : ∀ {x : Nat}, x < 2 ^ D 0 0 → x < 2 ^ 31 := fun hx => Nat.lt_of_lt_of_le (p12 hx n2) (by decide)
  rcases feat w x with ⟨f, hf, rfl, f1, f2⟩ | ⟨f1, f2⟩
  · have hpf : 2 ^ f < 2 ^ D 0 0 := Nat.pow_lt_pow_right (by decide) hf
    have hd : pX6_checkDecidable C (nI f) = if f = 0 then some (.inl 2) else if (i ||| o).testBit f then some (.inl 3) else some (.inr ()) := by
      unfold pX6_checkDecidable pX6_checkNotRoot
      rw [tb_t (f1 C i o hC)]
      by_cases z : f = 0
      · rw [if_pos z, if_pos (by rw [z]; rfl)]; rfl
      · rw [if_neg z, if_neg (fun q => by have := (nI0 (by omega)).mp q; omega), tb_t rfl, hC.ci, hC.co, nI_lor, bd_t (cHas C (q31 (Nat.or_lt_two_pow hi ho)) (by omega))]
        cases (i ||| o).testBit f <;> rfl
    obtain ⟨dT0, dT1, dT2, dT3⟩ := mDecides hM w hi ho hf f2 true
    obtain ⟨dF0, dF1, dF2, dF3⟩ := mDecides hM w hi ho hf f2 false
    unfold pX6_choose pX6_refuse pX7_choose pX7_refuse
    by_cases z : f = 0
    · rw [if_pos z] at hd
      rw [tb_e hd, tb_e hd, bd_t (show pX7_decides M (nI f) 1 = _ from dT0 z), bd_t (show pX7_decides M (nI f) 0 = _ from dF0 z)]
      exact ⟨⟨_, _, _, rfl, (hI0.m ((hM.thr 0).thr 2)).inv, Or.inl ⟨2, rfl, by decide, sS_eq⟩⟩, ⟨_, _, _, rfl, (hI0.m ((hM.thr 0).thr 2)).inv, Or.inl ⟨2, rfl, by decide, sS_eq⟩⟩⟩
    · rw [if_neg z] at hd
      cases y : (i ||| o).testBit f with
      | true =>
        rw [y, if_pos rfl] at hd
        obtain ⟨M1, a1, a2, a3⟩ := dT1 z y
        obtain ⟨M2, b1, b2, b3⟩ := dF1 z y
        rw [tb_e hd, tb_e hd, bd_t (show pX7_decides M (nI f) 1 = _ from a1), bd_t (show pX7_decides M (nI f) 0 = _ from b1)]
        exact ⟨⟨_, _, _, rfl, (hI0.m a2).inv, Or.inl ⟨3, rfl, by decide, a3⟩⟩, ⟨_, _, _, rfl, (hI0.m b2).inv, Or.inl ⟨3, rfl, by decide, b3⟩⟩⟩
      | false =>
        rw [y, if_neg (by decide)] at hd
        constructor
        · obtain ⟨c, c1, c2⟩ := cReach0 hC w (Nat.or_lt_two_pow hi hpf) ho
          rw [tb_t hd]
          simp only [ltv, nI_sh f (show f < 31 by omega), hC.ci, hC.co, nI_lor]
          rw [bd_t c1]
          cases c with
          | false =>
            have hn : ¬ ∃ S, S < 2 ^ D 0 0 ∧ cmpl D (i ||| 2 ^ f) o S = true := fun q => by have := c2.mpr q; cases this
            obtain ⟨M1, v, a1, a2, a3⟩ := dT2 z y hn
            rw [if_pos (show b2i false = 0 from rfl), bd_t (show pX7_decides M (nI f) 1 = _ from a1)]
            exact ⟨_, _, _, rfl, (hI0.m a2).inv, Or.inl ⟨4, rfl, by decide, a3⟩⟩
          | true =>
            have hn := c2.mp rfl
            obtain ⟨M1, Km, a1, a2, a3, a4⟩ := dT3 z y hn
            obtain ⟨C1, Kc, b1, b2, b3, b4, b5, b6⟩ := cUnknown (hC.setI (i ||| 2 ^ f)) w (Nat.or_lt_two_pow hi hpf) ho
            have e := Fin_uniq b2 a2
            subst e
            rw [if_neg (show ¬ b2i true = 0 by decide), bd_t b1, bd_t (show pX7_decides M (nI f) 1 = _ from a1)]
            exact ⟨_, _, _, rfl, ⟨D, i ||| 2 ^ f, o, w, ⟨Nat.or_lt_two_pow hi hpf, ho⟩, hn, b3, a3⟩, Or.inr ⟨rfl, a4⟩⟩
        · obtain ⟨c, c1, c2⟩ := cReach0 hC w hi (Nat.or_lt_two_pow ho hpf)
          rw [tb_t hd]
          simp only [ltv, nI_sh f (show f < 31 by omega), hC.ci, hC.co, nI_lor]
          rw [bd_t c1]
          cases c with
          | false =>
            have hn : ¬ ∃ S, S < 2 ^ D 0 0 ∧ cmpl D i (o ||| 2 ^ f) S = true := fun q => by have := c2.mpr q; cases this
            obtain ⟨M1, v, a1, a2, a3⟩ := dF2 z y hn
            rw [if_pos (show b2i false = 0 from rfl), bd_t (show pX7_decides M (nI f) 0 = _ from a1)]
            exact ⟨_, _, _, rfl, (hI0.m a2).inv, Or.inl ⟨4, rfl, by decide, a3⟩⟩
          | true =>
            have hn := c2.mp rfl
            obtain ⟨M1, Km, a1, a2, a3, a4⟩ := dF3 z y hn
            obtain ⟨C1, Kc, b1, b2, b3, b4, b5, b6⟩ := cUnknown (hC.setO (o ||| 2 ^ f)) w hi (Nat.or_lt_two_pow ho hpf)
            have e := Fin_uniq b2 a2
            subst e
            rw [if_neg (show ¬ b2i true = 0 by decide), bd_t b1, bd_t (show pX7_decides M (nI f) 0 = _ from a1)]
            exact ⟨_, _, _, rfl, ⟨D, i, o ||| 2 ^ f, w, ⟨hi, Nat.or_lt_two_pow ho hpf⟩, hn, b3, a3⟩, Or.inr ⟨rfl, a4⟩⟩
  · have hd : pX6_checkDecidable C x = some (.inl 1) := by
      unfold pX6_checkDecidable
      rw [tb_e (f1 C i o hC)]
    have hm : ∀ y, pX7_decides M x y = some (0, sS M 7 1) := fun y => by
      unfold pX7_decides
      rw [bd_t (f2 M i o hM), bd_t (mT1 M 1), if_neg (show ¬ (1 : Int32) = 0 by decide)]
    unfold pX6_choose pX6_refuse pX7_choose pX7_refuse
    rw [tb_e hd, tb_e hd, bd_t (hm 1), bd_t (hm 0)]
    exact ⟨⟨_, _, _, rfl, (hI0.m (hM.thr 1)).inv, Or.inl ⟨1, rfl, by decide, sS_eq⟩⟩, ⟨_, _, _, rfl, (hI0.m (hM.thr 1)).inv, Or.inl ⟨1, rfl, by decide, sS_eq⟩⟩⟩
end Dec
