/-! ===== p39: the class's calls, said of the numbers of one model alone ===== -/
section Ops
variable {D : Dt} {i o : Nat} {C : St}
abbrev Pos (D : Dt) (i o : Nat) : Prop := ∃ S, S < 2 ^ D 0 0 ∧ cmpl D i o S = true
def InvC (D : Dt) (i o : Nat) (C : St) : Prop := WF D ∧ (i < 2 ^ D 0 0 ∧ o < 2 ^ D 0 0) ∧ Pos D i o ∧ RelC D i o C
theorem oFeat (w : WF D) (h : RelC D i o C) {f : Nat} (hf : f < D 0 0) : pX6_checkFeature C (nI f) = some (.inr ()) := by
  obtain ⟨n1, n2⟩ := w.n
  unfold pX6_checkFeature
  rw [if_neg (nI_pos (by omega)), h.n, if_pos (nltI (by omega) (by omega) hf)]
theorem oNoF (w : WF D) (h : RelC D i o C) {x : Int32} (hx : ¬ ∃ f, f < D 0 0 ∧ x = nI f) : pX6_checkFeature C x = some (.inl 1) := by
  rcases feat w x with ⟨f, hf, e, _⟩ | ⟨f1, _⟩
  · exact absurd ⟨f, hf, e⟩ hx
  · exact f1 C i o h
theorem oAdd (hI : InvC D i o C) {p v : Nat} (hp : p < D 0 0) (hv : v ≤ 999) (hn : D 0 0 < 12) : ∃ C', pX6_addFeature C (nI p) (nI v) = some (.inr (nI (D 0 0), C')) ∧ InvC (afD D p v) i o C' := by
  obtain ⟨w, ⟨hi, ho⟩, hex, hC⟩ := hI
  obtain ⟨n1, n2⟩ := w.n
  have hR := af_RelC hC w (v := v) hn hp
  have ck : ∀ u, (sA C 0 (D 0 0) u).2 1 p = nI (kidM D p) := fun u => by rw [sA_ne (by decide)]; exact hC.k (by omega)
  have cn : ∀ (a b c : Nat) (u q t : Int32) (x y s : Nat), (sA (sA (sA C a x u) b y q) c s t).1 3 = nI (D 0 0) := fun _ _ _ _ _ _ _ _ _ => hC.n
  unfold pX6_addFeature
  rw [tb_t (oFeat w hC hp), if_neg (nI_pos (by omega)), if_pos (show nI v ≤ 999 from nleI (b := 999) (by omega) (by decide) hv), hC.n, if_pos (show nI (D 0 0) < 12 from nltI (b := 12) (by omega) (by decide) hn)]
  unfold pX5_grow pX2_setFirst
  simp only [ltv, hC.n, gd_ix hn, gd_ix (show p < 12 by omega), nI_clp (show D 0 0 < 2 ^ 31 by omega), nI_clp (show p < 2 ^ 31 by omega), ck, cn, nI_sh (D 0 0) (show D 0 0 < 31 by omega), nI_lor, nI_1]
  rw [bd_t rfl]
  simp only [gd_ix hn, nI_clp (show D 0 0 < 2 ^ 31 by omega)]
  rw [bd_t rfl]
  obtain ⟨S, s1, s2⟩ := hex
  obtain ⟨a1, a2, a3⟩ := cmpl_iff.mp s2
  have e00 : afD D p v 0 0 = D 0 0 + 1 := af_00
  have up : ∀ y, y < 2 ^ D 0 0 → y < 2 ^ afD D p v 0 0 := fun y hy => by rw [e00]; exact lt_succ_pow hy
  exact ⟨_, rfl, af_wf w hn hp hv, ⟨up i hi, up o ho⟩, ⟨S, up S s1, cmpl_iff.mpr ⟨a1, a2, af_good w hn s1 a3⟩⟩, hR⟩
theorem oAddBad (w : WF D) (hC : RelC D i o C) {p : Nat} (hp : p < D 0 0) : pX6_addFeature C (nI p) 1000 = some (.inl (2, C)) := by
  unfold pX6_addFeature pX6_addFeature_16
  rw [tb_t (oFeat w hC hp), if_neg (show ¬ (1000 : Int32) < 0 by decide), if_neg (show ¬ (1000 : Int32) ≤ 999 by decide)]
theorem oAddNeg (w : WF D) (hC : RelC D i o C) : pX6_addFeature C 0 (-1) = some (.inl (2, C)) := by
  unfold pX6_addFeature pX6_addFeature_16
  rw [tb_t (show pX6_checkFeature C 0 = _ from oFeat (f := 0) w hC w.n.1), if_pos (show (-1 : Int32) < 0 by decide)]
theorem oAddNo (w : WF D) (hC : RelC D i o C) {x y : Int32} (hx : ¬ ∃ f, f < D 0 0 ∧ x = nI f) : pX6_addFeature C x y = some (.inl (1, C)) := by
  unfold pX6_addFeature
  rw [tb_e (oNoF w hC hx)]
theorem oGroupNo (w : WF D) (hC : RelC D i o C) {x y z : Int32} (hx : ¬ ∃ f, f < D 0 0 ∧ x = nI f) : pX6_setGroup C x y z = some (.inl (1, C)) := by
  unfold pX6_setGroup
  rw [tb_e (oNoF w hC hx)]
theorem oGroupNeg (w : WF D) (hC : RelC D i o C) : pX6_setGroup C 0 (-1) 0 = some (.inl (2, C)) := by
  unfold pX6_setGroup pX6_setGroup_20
  rw [tb_t (show pX6_checkFeature C 0 = _ from oFeat (f := 0) w hC w.n.1), if_pos (show (-1 : Int32) < 0 by decide)]
theorem oGroup13 (w : WF D) (hC : RelC D i o C) : pX6_setGroup C 0 0 13 = some (.inl (2, C)) := by
  unfold pX6_setGroup pX6_setGroup_20
  rw [tb_t (show pX6_checkFeature C 0 = _ from oFeat (f := 0) w hC w.n.1), if_neg (show ¬ (0 : Int32) < 0 by decide), if_neg (show ¬ (13 : Int32) < 0 by decide), if_neg (show ¬ (13 : Int32) ≤ 12 by decide)]
theorem oGroupLess (w : WF D) (hC : RelC D i o C) {f lo up : Nat} (hf : f < D 0 0) (hl : lo < 2 ^ 31) (hh : up < lo) : pX6_setGroup C (nI f) (nI lo) (nI up) = some (.inl (2, C)) := by
  unfold pX6_setGroup pX6_setGroup_20
  rw [tb_t (oFeat w hC hf), if_neg (nI_pos hl), if_pos (nltI (by omega) hl hh)]
theorem oGroup (hI : InvC D i o C) {f lo up : Nat} (hf : f < D 0 0) (hlo : lo ≤ up) (hup : up ≤ 12) : (∃ C', pX6_setGroup C (nI f) (nI lo) (nI up) = some (.inr (nI (nk D f), C')) ∧ InvC (grD D f lo up) i o C') ∨ (¬ Pos (grD D f lo up) i o ∧ ∃ C', pX6_setGroup C (nI f) (nI lo) (nI up) = some (.inl (4, C')) ∧ InvC D i o C') := by
  obtain ⟨w, ⟨hi, ho⟩, hex, hC⟩ := hI
  obtain ⟨n1, n2⟩ := w.n
  have f12 : f < 12 := by omega
  have g00 : grD D f lo up 0 = D 0 := gr_row (by decide) (by decide)
  have w' := gr_wf w hf (show lo ≤ 12 by omega) hup
  have hi' : i < 2 ^ grD D f lo up 0 0 := by rw [g00]; exact hi
  have ho' : o < 2 ^ grD D f lo up 0 0 := by rw [g00]; exact ho
  have hC' := gr_RelC hC (f := f) (lo := lo) (hi := up)
  obtain ⟨c, c1, c2⟩ := cHasCmpl hC' w' hi' ho'
  have c2f : C.2 2 f = nI (D 2 f) := hC.lo f12
  have c3f : C.2 3 f = nI (D 3 f) := hC.hi hf
  unfold pX6_setGroup
  rw [tb_t (oFeat w hC hf), if_neg (nI_pos (show lo < 2 ^ 31 by omega)), if_neg (nltN (show up < 2 ^ 31 by omega) (show lo < 2 ^ 31 by omega) hlo), if_pos (show nI up ≤ 12 from nleI (b := 12) (by omega) (by decide) hup)]
  simp only [gd_ix f12, ltv, nI_clp (show f < 2 ^ 31 by omega), c2f, c3f]
  rw [bd_t c1]
  cases c with
  | false =>
    right
    rw [if_pos (show b2i false = 0 from rfl)]
    have hQ := gr_RelC hC' (f := f) (lo := D 2 f) (hi := D 3 f)
    rw [gr_back] at hQ
    exact ⟨fun q => absurd (c2.mpr q) (by decide), _, rfl, w, ⟨hi, ho⟩, hex, hQ⟩
  | true =>
    left
    have ck : (sA (sA C 2 f (nI lo)) 3 f (nI up)).2 1 f = nI (kidM D f) := by
      rw [sA_ne (by decide), sA_ne (by decide)]; exact hC.k f12
    rw [if_neg (show ¬ b2i true = 0 by decide), ck, bd_t (bitCnt (kidM_lt D f)), nkE]
    exact ⟨_, rfl, w', ⟨hi', ho'⟩, c2.mp rfl, hC'⟩
theorem oMandNo (w : WF D) (hC : RelC D i o C) {x y : Int32} (hx : ¬ ∃ f, f < D 0 0 ∧ x = nI f) : pX6_setMandatory C x y = some (.inl (1, C)) := by
  unfold pX6_setMandatory
  rw [tb_e (oNoF w hC hx)]
theorem oMand0 (w : WF D) (hC : RelC D i o C) (y : Int32) : pX6_setMandatory C 0 y = some (.inl (2, C)) := by
  unfold pX6_setMandatory pX6_checkNotRoot
  rw [tb_t (show pX6_checkFeature C 0 = _ from oFeat (f := 0) w hC w.n.1), if_pos rfl, tb_e rfl]
theorem oMand (hI : InvC D i o C) {f : Nat} (hf : f < D 0 0) (z : f ≠ 0) (b : Bool) : (∃ C', pX6_setMandatory C (nI f) (b2i b) = some (.inr (nI (D 4 f), C')) ∧ InvC (seD D 4 f b.toNat) i o C') ∨ (¬ Pos (seD D 4 f b.toNat) i o ∧ ∃ C', pX6_setMandatory C (nI f) (b2i b) = some (.inl (4, C')) ∧ InvC D i o C') := by
  obtain ⟨w, ⟨hi, ho⟩, hex, hC⟩ := hI
  obtain ⟨n1, n2⟩ := w.n
  have z' : ¬ nI f = 0 := fun q => by have := (nI0 (by omega)).mp q; omega
  have hm31 : mandM D < 2 ^ 31 := Nat.lt_of_lt_of_le (mandM_lt D) (by decide)
  have hl := (w.g (show f < 12 by omega)).2.2
  have g00 : seD D 4 f b.toNat 0 = D 0 := se_row (by decide)
  have w' := ma_wf w hf b
  have hi' : i < 2 ^ seD D 4 f b.toNat 0 0 := by rw [g00]; exact hi
  have ho' : o < 2 ^ seD D 4 f b.toNat 0 0 := by rw [g00]; exact ho
  have hC' := ma_RelC hC (f := f) (v := b.toNat) _ rfl
  obtain ⟨c, c1, c2⟩ := cHasCmpl hC' w' hi' ho'
  have e : pX6_setMandatory C (nI f) (b2i b) = pX6_setMandatory_44 C (nI f) (nI (mandM D)) (nI (mandM (seD D 4 f b.toNat))) := by
    unfold pX6_setMandatory pX6_checkNotRoot
    rw [tb_t (oFeat w hC hf), if_neg z', tb_t rfl, ma_mand w hf b]
    simp only [ltv, hC.md, nI_sh f (show f < 31 by omega), nI_adn, nI_lor]
    cases b <;> rfl
  rw [e]
  unfold pX6_setMandatory_44
  simp only [ltv]
  rw [bd_t c1]
  cases c with
  | false =>
    right
    rw [if_pos (show b2i false = 0 from rfl)]
    have hQ := ma_RelC hC' (f := f) (v := D 4 f) (nI (mandM D)) (by rw [se_back])
    rw [se_back] at hQ
    exact ⟨fun q => absurd (c2.mpr q) (by decide), _, rfl, w, ⟨hi, ho⟩, hex, hQ⟩
  | true =>
    left
    have ea : b2i ((mandM D).testBit f) = nI (D 4 f) := by
      rw [mandM_tb, decide_eq_true (show f < 12 by omega), Bool.true_and]
      have : D 4 f = 0 ∨ D 4 f = 1 := by omega
      rcases this with q | q <;> rw [q] <;> rfl
    rw [if_neg (show ¬ b2i true = 0 by decide), bd_t (cHas _ hm31 (show f < 32 by omega)), gd_t (b2i_ok _), ea]
    exact ⟨_, rfl, w', ⟨hi', ho'⟩, c2.mp rfl, hC'⟩
theorem oRetNo (w : WF D) (hC : RelC D i o C) {x : Int32} (hx : ¬ ∃ f, f < D 0 0 ∧ x = nI f) : pX6_retract C x = some (.inl (1, C)) := by
  unfold pX6_retract
  rw [tb_e (oNoF w hC hx)]
theorem oRet (hI : InvC D i o C) {f : Nat} (hf : f < D 0 0) : ((i ||| o).testBit f = false ∧ pX6_retract C (nI f) = some (.inl (3, C))) ∨ ((i ||| o).testBit f = true ∧ ∃ C', pX6_retract C (nI f) = some (.inr (if i.testBit f then 99 else 114, C')) ∧ InvC D (adn i (2 ^ f)) (adn o (2 ^ f)) C') := by
  obtain ⟨w, ⟨hi, ho⟩, hex, hC⟩ := hI
  obtain ⟨n1, n2⟩ := w.n
  have q31 : ∀ {x : Nat}, x < 2 ^ D 0 0 → x < 2 ^ 31 := fun hx => Nat.lt_of_lt_of_le (p12 hx n2) (by decide)
  unfold pX6_retract
  rw [tb_t (oFeat w hC hf), hC.ci, hC.co, nI_lor, bd_t (cHas C (q31 (Nat.or_lt_two_pow hi ho)) (by omega)), bd_t (cHas C (q31 hi) (by omega))]
  cases y : (i ||| o).testBit f with
  | false =>
    left
    exact ⟨rfl, if_pos (show b2i false = 0 from rfl)⟩
  | true =>
    right
    refine ⟨rfl, ?_⟩
    rw [if_neg (show ¬ b2i true = 0 by decide)]
    unfold pX6_retract_49
    rw [nI_sh f (by omega), bd_t (cBack hC (2 ^ f)), bd_t (cBack hC (2 ^ f))]
    have hs : Pos D (adn i (2 ^ f)) (adn o (2 ^ f)) := by
      obtain ⟨S, s1, s2⟩ := hex
      exact ⟨S, s1, cmpl_weak adn_sub adn_sub s2⟩
    have fin : InvC D (adn i (2 ^ f)) (adn o (2 ^ f)) (sS (sS C 0 (nI (adn i (2 ^ f)))) 1 (nI (adn o (2 ^ f)))) := ⟨w, ⟨adn_lt hi, adn_lt ho⟩, hs, (hC.setI _).setO _⟩
    cases i.testBit f with
    | true =>
      rw [if_neg (show ¬ b2i true = 0 by decide), gd_t (show okC 99 by decide)]
      exact ⟨_, rfl, fin⟩
    | false =>
      rw [if_pos (show b2i false = 0 from rfl), gd_t (show okC 114 by decide)]
      exact ⟨_, rfl, fin⟩
theorem oRetAll (hI : InvC D i o C) : ∃ C', pX6_retractAll C = some (nI (pop (i ||| o)), C') ∧ InvC D 0 0 C' := by
  obtain ⟨w, ⟨hi, ho⟩, hex, hC⟩ := hI
  obtain ⟨n1, n2⟩ := w.n
  have e1 : adn i (i ||| o) = 0 := zero_all.mpr fun j => by rw [adn_tb, Nat.testBit_or]; cases i.testBit j <;> rfl
  have e2 : adn o (i ||| o) = 0 := zero_all.mpr fun j => by rw [adn_tb, Nat.testBit_or]; cases i.testBit j <;> cases o.testBit j <;> rfl
  have bp := bitP (p12 (Nat.or_lt_two_pow hi ho) n2)
  refine ⟨sS (sS C 0 (nI 0)) 1 (nI 0), ?_, w, ⟨Nat.two_pow_pos _, Nat.two_pow_pos _⟩, ?_, (hC.setI 0).setO 0⟩
  · unfold pX6_retractAll
    rw [hC.ci, hC.co, nI_lor]
    simp only [ltv]
    rw [bd_t (cBack hC (i ||| o)), e1, e2, bd_t bp]
  · obtain ⟨S, s1, s2⟩ := hex
    exact ⟨S, s1, cmpl_weak (fun j q => by rw [Nat.zero_testBit] at q; cases q) (fun j q => by rw [Nat.zero_testBit] at q; cases q) s2⟩
theorem oDecNo (w : WF D) (hC : RelC D i o C) {x : Int32} (hx : ¬ ∃ f, f < D 0 0 ∧ x = nI f) : pX6_choose C x = some (.inl (1, C)) ∧ pX6_refuse C x = some (.inl (1, C)) := by
  have hd : pX6_checkDecidable C x = some (.inl 1) := by
    unfold pX6_checkDecidable
    rw [tb_e (oNoF w hC hx)]
  unfold pX6_choose pX6_refuse
  rw [tb_e hd, tb_e hd]
  exact ⟨rfl, rfl⟩
theorem oDecide (w : WF D) (hi : i < 2 ^ D 0 0) (ho : o < 2 ^ D 0 0) (hC : RelC D i o C) {f : Nat} (hf : f < D 0 0) : pX6_checkDecidable C (nI f) = if f = 0 then some (.inl 2) else if (i ||| o).testBit f then some (.inl 3) else some (.inr ()) := by
  obtain ⟨n1, n2⟩ := w.n
  have q31 : ∀ {x : Nat}, x < 2 ^ D 0 0 → x < 2 ^ 31 := fun hx => Nat.lt_of_lt_of_le (p12 hx n2) (by decide)
  unfold pX6_checkDecidable pX6_checkNotRoot
  rw [tb_t (oFeat w hC hf)]
  by_cases z : f = 0
  · rw [if_pos z, if_pos (by rw [z]; rfl)]; rfl
  · rw [if_neg z, if_neg (fun q => by have := (nI0 (by omega)).mp q; omega), tb_t rfl, hC.ci, hC.co, nI_lor, bd_t (cHas C (q31 (Nat.or_lt_two_pow hi ho)) (by omega))]
    cases (i ||| o).testBit f <;> rfl
/-- the unknown features' number, the deduction once more -/
theorem oUnknown (hI : InvC D i o C) : ∃ C' K, pX6_unknown C = some (unV D K, C') ∧ Fin D (K0 i o) K ∧ InvC D i o C' := by
  obtain ⟨w, ⟨hi, ho⟩, hex, hC⟩ := hI
  obtain ⟨C', K, c1, c2, c3, _⟩ := cUnknown hC w hi ho
  refine ⟨C', K, ?_, c2, w, ⟨hi, ho⟩, hex, c3⟩
  unfold pX6_unknown
  rw [bd_t c1]
theorem oChoose (hI : InvC D i o C) {f : Nat} (hf : f < D 0 0) (z : f ≠ 0) (y : (i ||| o).testBit f = false) : (∃ C' K, pX6_choose C (nI f) = some (.inr (unV D K, C')) ∧ Fin D (K0 (i ||| 2 ^ f) o) K ∧ InvC D (i ||| 2 ^ f) o C') ∨ (¬ Pos D (i ||| 2 ^ f) o ∧ pX6_choose C (nI f) = some (.inl (4, C))) := by
  obtain ⟨w, ⟨hi, ho⟩, hex, hC⟩ := hI
  obtain ⟨n1, n2⟩ := w.n
  have hpf : 2 ^ f < 2 ^ D 0 0 := Nat.pow_lt_pow_right (by decide) hf
  have hd := oDecide w hi ho hC hf
  rw [if_neg z, y, if_neg (by decide)] at hd
  obtain ⟨c, c1, c2⟩ := cReach0 hC w (Nat.or_lt_two_pow hi hpf) ho
  unfold pX6_choose
  rw [tb_t hd]
  simp only [ltv, nI_sh f (show f < 31 by omega), hC.ci, hC.co, nI_lor]
  rw [bd_t c1]
  cases c with
  | false =>
    right
    exact ⟨fun q => absurd (c2.mpr q) (by decide), if_pos (show b2i false = 0 from rfl)⟩
  | true =>
    left
    obtain ⟨C1, K, b1, b2, b3, _⟩ := cUnknown (hC.setI (i ||| 2 ^ f)) w (Nat.or_lt_two_pow hi hpf) ho
    rw [if_neg (show ¬ b2i true = 0 by decide), bd_t b1]
    exact ⟨_, K, rfl, b2, w, ⟨Nat.or_lt_two_pow hi hpf, ho⟩, c2.mp rfl, b3⟩
theorem oRefuse (hI : InvC D i o C) {f : Nat} (hf : f < D 0 0) (z : f ≠ 0) (y : (i ||| o).testBit f = false) : (∃ C' K, pX6_refuse C (nI f) = some (.inr (unV D K, C')) ∧ Fin D (K0 i (o ||| 2 ^ f)) K ∧ InvC D i (o ||| 2 ^ f) C') ∨ (¬ Pos D i (o ||| 2 ^ f) ∧ pX6_refuse C (nI f) = some (.inl (4, C))) := by
  obtain ⟨w, ⟨hi, ho⟩, hex, hC⟩ := hI
  obtain ⟨n1, n2⟩ := w.n
  have hpf : 2 ^ f < 2 ^ D 0 0 := Nat.pow_lt_pow_right (by decide) hf
  have hd := oDecide w hi ho hC hf
  rw [if_neg z, y, if_neg (by decide)] at hd
  obtain ⟨c, c1, c2⟩ := cReach0 hC w hi (Nat.or_lt_two_pow ho hpf)
  unfold pX6_refuse
  rw [tb_t hd]
  simp only [ltv, nI_sh f (show f < 31 by omega), hC.ci, hC.co, nI_lor]
  rw [bd_t c1]
  cases c with
  | false =>
    right
    exact ⟨fun q => absurd (c2.mpr q) (by decide), if_pos (show b2i false = 0 from rfl)⟩
  | true =>
    left
    obtain ⟨C1, K, b1, b2, b3, _⟩ := cUnknown (hC.setO (o ||| 2 ^ f)) w hi (Nat.or_lt_two_pow ho hpf)
    rw [if_neg (show ¬ b2i true = 0 by decide), bd_t b1]
    exact ⟨_, K, rfl, b2, w, ⟨hi, Nat.or_lt_two_pow ho hpf⟩, c2.mp rfl, b3⟩
theorem oDec0 (hI : InvC D i o C) : pX6_choose C 0 = some (.inl (2, C)) ∧ pX6_refuse C 0 = some (.inl (2, C)) := by
  obtain ⟨w, ⟨hi, ho⟩, hex, hC⟩ := hI
  have hd : pX6_checkDecidable C 0 = some (.inl 2) := (show pX6_checkDecidable C 0 = _ from oDecide (f := 0) w hi ho hC w.n.1)
  unfold pX6_choose pX6_refuse
  rw [tb_e hd, tb_e hd]
  exact ⟨rfl, rfl⟩
theorem oDecB (hI : InvC D i o C) {f : Nat} (hf : f < D 0 0) (z : f ≠ 0) (y : (i ||| o).testBit f = true) : pX6_choose C (nI f) = some (.inl (3, C)) ∧ pX6_refuse C (nI f) = some (.inl (3, C)) := by
  obtain ⟨w, ⟨hi, ho⟩, hex, hC⟩ := hI
  have hd := oDecide w hi ho hC hf
  rw [if_neg z, y, if_pos rfl] at hd
  unfold pX6_choose pX6_refuse
  rw [tb_e hd, tb_e hd]
  exact ⟨rfl, rfl⟩
end Ops
