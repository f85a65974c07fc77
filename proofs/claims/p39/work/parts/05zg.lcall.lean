/-! ===== p39: the law's steps ===== -/
theorem lIn {T : SC} (hL : T.1 < 2 ^ 31) {k n : Nat} (hk : k < 2 ^ 31) (h1 : 1 ≤ n) (hn : n < 2 ^ 31) : ∃ j, j < n ∧ pL_in T (nI k) (nI n) = some (nI j) := by
  have hc : ∃ v, pL_cell T (nI k) = some v := by
    unfold pL_cell pL_cell_15
    simp only [ltv]
    by_cases q : nI T.1 ≤ nI k
    · rw [if_pos q]; exact ⟨_, rfl⟩
    · have z : k < T.1 := by
        rcases Nat.lt_or_ge k T.1 with z | z
        · exact z
        · exact absurd (nleI hL hk z) q
      rw [if_neg q, gd_t (show ix (nI k) T.1 from nI_in z hL)]
      exact ⟨_, rfl⟩
  obtain ⟨v, hv⟩ := hc
  obtain ⟨m, hm, e⟩ := pk_andE v (m := 2147483647) 31 (by decide)
  refine ⟨m % n, Nat.mod_lt _ (by omega), ?_⟩
  unfold pL_in
  rw [bd_t hv, gd_t (show ¬ nI n = 0 from fun q => by have := (nI0 hn).mp q; omega), e, pk_rem hm (by omega) hn]
theorem s14 {C : St} {k : Nat} {v : Int32} : (sA C 14 k v).2 14 = upd (C.2 14) k v := rfl
theorem s15 {C : St} {k : Nat} {v : Int32} : (sA C 15 k v).2 15 = upd (C.2 15) k v := rfl
theorem s14_15 {C : St} {k : Nat} {v : Int32} : (sA C 14 k v).2 15 = C.2 15 := rfl
theorem s15_14 {C : St} {k : Nat} {v : Int32} : (sA C 15 k v).2 14 = C.2 14 := rfl
theorem cp14 {C : St} : (cp C).2 14 = C.2 14 := rfl
theorem cp15 {C : St} : (cp C).2 15 = C.2 14 := rfl
theorem mg14 {u C : St} : (mg u C).2 14 = C.2 14 := rfl
theorem mg15 {u C : St} : (mg u C).2 15 = C.2 15 := rfl
theorem nx14 {C : St} : (nx C).2 14 = C.2 15 := rfl
/-- the class's numbers are the same -/
def Alk (C' C : St) : Prop := C'.1 = C.1 ∧ ∀ k, k < 14 → C'.2 k = C.2 k
theorem Alk.rf {C : St} : Alk C C := ⟨rfl, fun _ _ => rfl⟩
theorem Alk.a14 {C' C : St} (h : Alk C' C) {k : Nat} {v : Int32} : Alk (sA C' 14 k v) C := ⟨h.1, fun j hj => (va_up_ne _ _ (by omega)).trans (h.2 j hj)⟩
theorem Alk.a15 {C' C : St} (h : Alk C' C) {k : Nat} {v : Int32} : Alk (sA C' 15 k v) C := ⟨h.1, fun j hj => (va_up_ne _ _ (by omega)).trans (h.2 j hj)⟩
theorem Alk.cp {C' C : St} (h : Alk C' C) : Alk (cp C') C := ⟨h.1, fun j hj => (if_neg (by omega)).trans (h.2 j hj)⟩
theorem Alk.mg {u C' C : St} (h : Alk u C) : Alk (mg u C') C := ⟨h.1, fun j hj => (if_pos hj).trans (h.2 j hj)⟩
section LCall
variable {D : Dt} {i o : Nat} {C : St} {T : SC}
theorem RelC.alk (h : RelC D i o C) {C' : St} (e : Alk C' C) : RelC D i o C' := by
  obtain ⟨e1, e2⟩ := e
  unfold RelC at h ⊢
  rw [e1, e2 0 (by decide), e2 1 (by decide), e2 2 (by decide), e2 3 (by decide), e2 4 (by decide), e2 5 (by decide), e2 6 (by decide), e2 7 (by decide), e2 8 (by decide), e2 9 (by decide), e2 10 (by decide)]
  exact h
theorem InvC.alk (h : InvC D i o C) {C' : St} (e : Alk C' C) : InvC D i o C' := ⟨h.1, h.2.1, h.2.2.1, h.2.2.2.alk e⟩
def JN (D : Dt) (i o : Nat) (C : St) : Prop := InvC D i o C ∧ NetR D i o (C.2 14) ∧ D 0 0 ≤ 8
def JX (m : Nat) (C : St) : Prop := ∃ D i o, JN D i o C ∧ m ≤ D 0 0
/-- after a call of the class that leaves the row as it is -/
theorem JN.back {u C' : St} {m : Nat} (hI : InvC D i o u) (hN : NetR D i o (C'.2 14)) (h8 : D 0 0 ≤ 8) (hm : m ≤ D 0 0) : JX m (mg u C') := ⟨D, i, o, ⟨hI.alk Alk.rf.mg, hN, h8⟩, hm⟩
theorem wW_e {x : Option ((Nat × St) ⊕ (Int32 × St))} {cd : Nat → Int32} {f : Int32 → Int32} {k : Nat} {u : St} (h : x = some (.inl (k, u))) (hk : cd k ≠ 0) : wresW x cd f = some (cd k, u) := by
  rw [h]
  exact if_neg hk
theorem wW_r {x : Option ((Nat × St) ⊕ (Int32 × St))} {cd : Nat → Int32} {f : Int32 → Int32} {r : Int32} {u : St} (h : x = some (.inr (r, u))) : wresW x cd f = some (f r, u) := by
  rw [h]; rfl
theorem wR_e {x : Option (Nat ⊕ Int32)} {cd : Nat → Int32} {f : Int32 → Int32} {k : Nat} {u : St} (h : x = some (.inl k)) (hk : cd k ≠ 0) : wresR x u cd f = some (cd k, u) := by
  rw [h]
  exact if_neg hk
theorem wR_r {x : Option (Nat ⊕ Int32)} {cd : Nat → Int32} {f : Int32 → Int32} {r : Int32} {u : St} (h : x = some (.inr r)) : wresR x u cd f = some (f r, u) := by
  rw [h]; rfl
theorem lFea46 (hJ : JN D i o C) {p v : Nat} (hp : p < D 0 0) (hv : v ≤ 999) : ∃ C', pL_isFeature_46 T C (nI p) (nI v) = some (1, C') ∧ JX (D 0 0) C' := by
  obtain ⟨hI, hN, h8⟩ := hJ
  have w := hI.1
  have e0 : C.2 14 0 = nI (D 0 0) := hN.1.1
  unfold pL_isFeature_46
  rw [gx0]
  by_cases z : D 0 0 = 8
  · rw [if_pos (show C.2 14 (0 : Int32).toNatClampNeg = 8 by rw [z0c, e0, z]; rfl), bd_t (show pL_addFeature C (nI p) 1000 = some (-900002, C) from wW_e (oAddBad w hI.2.2.2 hp) (by decide))]
    simp only [ltv]
    rw [if_pos trivial]
    exact ⟨_, rfl, JN.back hI hN h8 (Nat.le_refl _)⟩
  · have hne : ¬ nI (D 0 0) = 8 := fun q => z ((nI_eq (b := 8) (by omega) (by decide)).mp q)
    have u1 : ∀ (f : Nat → Int32) (x : Int32), upd f (10 + D 0 0) x 0 = f 0 := fun f x => up_ne (by omega)
    have u2 : ∀ (f : Nat → Int32) (x : Int32), upd f (30 + D 0 0) x 0 = f 0 := fun f x => up_ne (by omega)
    have u3 : ∀ (f : Nat → Int32) (x : Int32), upd f (70 + D 0 0) x 0 = f 0 := fun f x => up_ne (by omega)
    rw [if_neg (show ¬ C.2 14 (0 : Int32).toNatClampNeg = 8 from fun q => hne (e0.symm.trans q))]
    simp only [ltv, gx0, z0c, a10, a30, a70, gd_ix (show 10 + D 0 0 < 250 by omega), gd_ix (show 30 + D 0 0 < 250 by omega), gd_ix (show 70 + D 0 0 < 250 by omega), nI_clp (show 10 + D 0 0 < 2 ^ 31 by omega), nI_clp (show 30 + D 0 0 < 2 ^ 31 by omega), nI_clp (show 70 + D 0 0 < 2 ^ 31 by omega), s14, u1, u2, u3, e0, p1c]
    obtain ⟨C', c1, c2⟩ := oAdd (hI.alk (C' := sA (sA (sA (sA C 14 (10 + D 0 0) (nI p)) 14 (30 + D 0 0) (nI v)) 14 (70 + D 0 0) 12) 14 0 (nI (D 0 0 + 1))) Alk.rf.a14.a14.a14.a14) hp hv (by omega)
    rw [bd_t (show pL_addFeature _ (nI p) (nI v) = some (nI (D 0 0), C') from wW_r c1)]
    simp only [mg14, s14, up_eq]
    rw [if_pos (show nI (D 0 0) = nI (D 0 0 + 1) - 1 from ((pk_sub (a := D 0 0 + 1) (b := 1) (by omega)).trans (by rw [Nat.add_sub_cancel])).symm)]
    refine ⟨_, rfl, afD D p v, i, o, ⟨c2.alk Alk.rf.mg, ?_, ?_⟩, ?_⟩
    · have := hN.fea w (by omega) (p := p) (v := v) (nI v)
      exact this
    · rw [af_00]; omega
    · rw [af_00]; omega
theorem lFeature (hJ : JN D i o C) (hL : T.1 < 2 ^ 31) {k : Nat} (hk : k < 1000) : ∃ C', pL_isFeature T C (nI k) = some (1, C') ∧ JX (D 0 0) C' := by
  have n1 := hJ.1.1.n.1
  have h8 := hJ.2.2
  have e0 : C.2 14 0 = nI (D 0 0) := hJ.2.1.1.1
  obtain ⟨p, hp, e1⟩ := lIn hL (show k < 2 ^ 31 by omega) n1 (show D 0 0 < 2 ^ 31 by omega)
  obtain ⟨a, ha, e2⟩ := lIn hL (show k + 1 < 2 ^ 31 by omega) (show 1 ≤ 5 by decide) (by decide)
  obtain ⟨b, hb, e3⟩ := lIn hL (show k + 2 < 2 ^ 31 by omega) (show 1 ≤ 1000 by decide) (by decide)
  obtain ⟨c, hc, e4⟩ := lIn hL (show k + 2 < 2 ^ 31 by omega) (show 1 ≤ 6 by decide) (by decide)
  unfold pL_isFeature
  rw [gx0, z0c, e0, bd_t e1, p1c, p2c, bd_t (show pL_in T (nI (k + 1)) 5 = _ from e2), bd_t (show pL_in T (nI (k + 2)) 1000 = _ from e3), bd_t (show pL_in T (nI (k + 2)) 6 = _ from e4)]
  by_cases z : nI a = 0
  · rw [if_pos z]
    exact lFea46 hJ hp (by omega)
  · rw [if_neg z, show (10 : Int32) * nI c = nI (10 * c) from pk_mul 10 c]
    exact lFea46 hJ hp (by omega)
theorem lKids (w : WF D) (h8 : D 0 0 ≤ 8) (hN : NetR D i o (C.2 14)) {f : Nat} (hf : f < D 0 0) (x3 x4 : Int32) : pL_isGroup_96 FU C (nI f) x3 x4 0 1 = bd (pL_setGroup C (nI f) x3 x4) (fun u => if u.1 = nI (nk D f) then some (1, mg u.2 C) else some (0, mg u.2 C)) := by
  have n1 := w.n.1
  have e0 : C.2 14 0 = nI (D 0 0) := hN.1.1
  have k0 : ct (kid D f) 1 = 0 := ct_eq0.mpr fun c hc => by
    unfold kid
    rw [decide_eq_false (show ¬ 1 ≤ c by omega)]; rfl
  have kE : ct (kid D f) (D 0 0) = nk D f := by
    unfold nk
    refine (ct_ext (m := D 0 0) (by omega) fun c h1 h2 => ?_).symm
    unfold kid
    rw [decide_eq_false (show ¬ c < D 0 0 by omega)]
    cases decide (1 ≤ c) <;> rfl
  have key : pL_isGroup_96 FU C (nI f) x3 x4 (nI (ct (kid D f) 1)) (nI 1) = bd (pL_setGroup C (nI f) x3 x4) (fun u => if u.1 = nI (nk D f) then some (1, mg u.2 C) else some (0, mg u.2 C)) := by
    refine loopF (F := fun N j => pL_isGroup_96 N C (nI f) x3 x4 (nI (ct (kid D f) (1 + j))) (nI (1 + j))) (m := D 0 0 - 1) (fun N => ?_) (fun N j hj => Or.inl ?_) FU 0 (Nat.zero_le _) (by unfold FU; omega)
    · show pL_isGroup_96_b (pL_isGroup_96 N) C (nI f) x3 x4 (nI (ct (kid D f) (1 + (D 0 0 - 1)))) (nI (1 + (D 0 0 - 1))) = _
      unfold pL_isGroup_96_b
      rw [show 1 + (D 0 0 - 1) = D 0 0 by omega, gx0, z0c, e0, if_pos (nleI (by omega) (by omega) (Nat.le_refl _)), kE]
      rfl
    · show pL_isGroup_96_b (pL_isGroup_96 N) C (nI f) x3 x4 (nI (ct (kid D f) (1 + j))) (nI (1 + j)) = pL_isGroup_96 N C (nI f) x3 x4 (nI (ct (kid D f) (1 + (j + 1)))) (nI (1 + (j + 1)))
      rw [show 1 + (j + 1) = (1 + j) + 1 by omega]
      have hc : 1 + j < D 0 0 := by omega
      have hc1 : 1 ≤ 1 + j := by omega
      generalize 1 + j = c at hc hc1 ⊢
      have hp := w.2.1 c hc1 hc
      unfold pL_isGroup_96_b
      rw [gx0, z0c, e0, if_neg (nleN (by omega) (by omega) hc), a10, gd_ix (show 10 + c < 250 by omega), nI_clp (show 10 + c < 2 ^ 31 by omega), hN.2.1.1 c hc1 hc, ct_s, kid_yes hc1 hc]
      unfold pL_isGroup_122
      simp only [ltv, p1c]
      by_cases y : D 1 c = f
      · rw [if_pos (show nI (D 1 c) = nI f by rw [y]), decide_eq_true y, if_pos (show true = true from rfl)]
      · rw [if_neg (fun q => y ((nI_eq (by omega) (by omega)).mp q)), decide_eq_false y, if_neg (show ¬ false = true by decide), Nat.add_zero, Int32.add_zero]
        rfl
  rw [k0] at key
  exact key
theorem lGroup (hJ : JN D i o C) {f lo up : Nat} (hf : f < D 0 0) (hlo : lo ≤ 12) (hup : up ≤ 12) : ∃ C', pL_isGroup C (nI f) (nI lo) (nI up) = some (1, C') ∧ JX (D 0 0) C' := by
  obtain ⟨hI, hN, h8⟩ := hJ
  have w := hI.1
  have g0 : grD D f lo up 0 = D 0 := gr_row (by decide) (by decide)
  have hG := hN.grp (by omega) (show f < 12 by omega) (lo := lo) (up := up)
  unfold pL_isGroup
  simp only [ltv, a50, a70, gd_ix (show 50 + f < 250 by omega), gd_ix (show 70 + f < 250 by omega), nI_clp (show 50 + f < 2 ^ 31 by omega), nI_clp (show 70 + f < 2 ^ 31 by omega)]
  have hA : Alk (sA (sA (cp C) 15 (50 + f) (nI lo)) 15 (70 + f) (nI up)) C := Alk.rf.cp.a15.a15
  have hN3 : NetR D i o ((sA (sA (cp C) 15 (50 + f) (nI lo)) 15 (70 + f) (nI up)).2 14) := hN
  by_cases q : lo ≤ up
  · rw [if_pos (nleI (by omega) (by omega) q)]
    have w' := gr_wf w hf (lo := lo) (hi := up) hlo hup
    have hi' : i < 2 ^ grD D f lo up 0 0 := by rw [g0]; exact hI.2.1.1
    have ho' : o < 2 ^ grD D f lo up 0 0 := by rw [g0]; exact hI.2.1.2
    obtain ⟨b, b1, b2⟩ := lPoss (C := nx (sA (sA (cp C) 15 (50 + f) (nI lo)) 15 (70 + f) (nI up))) w' hi' ho' hG
    rw [bd_t b1]
    cases b with
    | false =>
      rw [if_pos (show b2i false = 0 from rfl)]
      rcases oGroup (hI.alk hA) hf q hup with ⟨C', c1, c2⟩ | ⟨_, C', c1, c2⟩
      · exact absurd (b2.mpr c2.2.2.1) (by decide)
      · rw [bd_t (show pL_setGroup _ (nI f) (nI lo) (nI up) = some (-900003, C') from wW_e c1 (by decide)), if_pos (show (-900003 : Int32) = -900003 from rfl)]
        exact ⟨_, rfl, JN.back c2 hN3 h8 (Nat.le_refl _)⟩
    | true =>
      rw [if_neg (show ¬ b2i true = 0 by decide)]
      have hA6 : Alk (sA (sA (sA (sA (cp C) 15 (50 + f) (nI lo)) 15 (70 + f) (nI up)) 14 (50 + f) (nI lo)) 14 (70 + f) (nI up)) C := hA.a14.a14
      have hG6 : NetR (grD D f lo up) i o ((sA (sA (sA (sA (cp C) 15 (50 + f) (nI lo)) 15 (70 + f) (nI up)) 14 (50 + f) (nI lo)) 14 (70 + f) (nI up)).2 14) := hG
      have nE : nk (grD D f lo up) f = nk D f := by
        unfold nk kid
        rw [g0, gr_row (x := 1) (by decide) (by decide)]
      rw [lKids w' (by rw [g0]; exact h8) hG6 (by rw [g0]; exact hf), nE]
      rcases oGroup (hI.alk hA6) hf q hup with ⟨C', c1, c2⟩ | ⟨c0, _⟩
      · rw [bd_t (show pL_setGroup _ (nI f) (nI lo) (nI up) = some (nI (nk D f), C') from wW_r c1), if_pos rfl]
        exact ⟨_, rfl, JN.back c2 hG6 (by rw [g0]; exact h8) (Nat.le_of_eq (by rw [g0]))⟩
      · exact absurd (b2.mp rfl) c0
  · rw [if_neg (nleN (by omega) (by omega) (by omega)), bd_t (show pL_setGroup _ (nI f) (nI lo) (nI up) = some (-900002, _) from wW_e (oGroupLess w (hI.alk hA).2.2.2 hf (by omega) (by omega)) (by decide)), if_pos (show (-900002 : Int32) = -900002 from rfl)]
    exact ⟨_, rfl, JN.back (hI.alk hA) hN3 h8 (Nat.le_refl _)⟩
theorem lMand (hJ : JN D i o C) {f : Nat} (hf : f < D 0 0) (b : Bool) : ∃ C', pL_isMandatory C (nI f) (b2i b) = some (1, C') ∧ JX (D 0 0) C' := by
  obtain ⟨hI, hN, h8⟩ := hJ
  have w := hI.1
  unfold pL_isMandatory
  by_cases z : f = 0
  · subst z
    rw [if_pos (show nI 0 = 0 from rfl), bd_t (show pL_setMandatory C 0 (b2i b) = some (-900002, C) from wW_e (oMand0 w hI.2.2.2 _) (by decide))]
    simp only [ltv]
    rw [if_pos trivial]
    exact ⟨_, rfl, JN.back hI hN h8 (Nat.le_refl _)⟩
  · have g0 : seD D 4 f b.toNat 0 = D 0 := se_row (by decide)
    have hG := hN.man (by omega) (show f < 12 by omega) (v := b.toNat)
    have vb : b2i b = nI b.toNat := by cases b <;> rfl
    have hl := (w.g (show f < 12 by omega)).2.2
    have em : C.2 14 (90 + f) = nI (D 4 f) := hN.2.1.2.2.2 f (by omega)
    have e42 : ltv (cp C) (fun C_1 => if b2i b = 0 then pL_isMandatory_42 C_1 (nI f) (b2i b) (90 + nI f) 0 else pL_isMandatory_42 C_1 (nI f) (b2i b) (90 + nI f) 1) = pL_isMandatory_42 (cp C) (nI f) (b2i b) (nI (90 + f)) (nI b.toNat) := by
      simp only [ltv, a90]
      cases b <;> rfl
    rw [if_neg (fun q => z ((nI0 (by omega)).mp q)), e42]
    unfold pL_isMandatory_42
    simp only [ltv, a90, gd_ix (show 90 + f < 250 by omega), nI_clp (show 90 + f < 2 ^ 31 by omega), s15, s15_14, cp14, cp15, up_eq, em]
    have hA : Alk (sA (cp C) 15 (90 + f) (nI b.toNat)) C := Alk.rf.cp.a15
    have hN2 : NetR D i o ((sA (cp C) 15 (90 + f) (nI b.toNat)).2 14) := hN
    have w' := ma_wf w hf b
    have hi' : i < 2 ^ seD D 4 f b.toNat 0 0 := by rw [g0]; exact hI.2.1.1
    have ho' : o < 2 ^ seD D 4 f b.toNat 0 0 := by rw [g0]; exact hI.2.1.2
    obtain ⟨y, b1, b2⟩ := lPoss (C := nx (sA (cp C) 15 (90 + f) (nI b.toNat))) w' hi' ho' hG
    rw [bd_t b1]
    cases y with
    | false =>
      rw [if_pos (show b2i false = 0 from rfl)]
      rcases oMand (hI.alk hA) hf z b with ⟨C', c1, c2⟩ | ⟨_, C', c1, c2⟩
      · exact absurd (b2.mpr c2.2.2.1) (by decide)
      · rw [bd_t (show pL_setMandatory _ (nI f) (b2i b) = some (-900003, C') from wW_e c1 (by decide)), if_pos (show (-900003 : Int32) = -900003 from rfl)]
        exact ⟨_, rfl, JN.back c2 hN2 h8 (Nat.le_refl _)⟩
    | true =>
      rw [if_neg (show ¬ b2i true = 0 by decide)]
      have hA5 : Alk (sA (sA (cp C) 15 (90 + f) (nI b.toNat)) 14 (90 + f) (nI b.toNat)) C := hA.a14
      have hG5 : NetR (seD D 4 f b.toNat) i o ((sA (sA (cp C) 15 (90 + f) (nI b.toNat)) 14 (90 + f) (nI b.toNat)).2 14) := hG
      have vE : (if nI (D 4 f) = 0 then (0 : Int32) else 1) = nI (D 4 f) := by
        have : D 4 f = 0 ∨ D 4 f = 1 := by omega
        rcases this with q | q <;> rw [q] <;> rfl
      rcases oMand (hI.alk hA5) hf z b with ⟨C', c1, c2⟩ | ⟨c0, _⟩
      · rw [bd_t (show pL_setMandatory _ (nI f) (b2i b) = some ((if nI (D 4 f) = 0 then (0 : Int32) else 1), C') from wW_r c1), if_pos vE]
        exact ⟨_, rfl, JN.back c2 hG5 (by rw [g0]; exact h8) (Nat.le_of_eq (by rw [g0]))⟩
      · exact absurd (b2.mp rfl) c0
end LCall
