section Lay2
variable {D : Dt} {i o : Nat} {C M : St}
theorem cAddL (hI : InvD D i o C M) {kd a b c : Nat} (hk : D 0 2 < 6) (det : Int32) (hd : det = nI (if kd = 0 then 2 ^ a ||| 2 ^ b else if kd = 1 then 0 else a)) : ∃ C', pX6_addLayer C (nI kd) det (nI c) = some (.inr (nI (D 0 2 + 2), C')) ∧ RelC (lyD D kd a b c) i o C' := by
  obtain ⟨w, -, -, hC, -⟩ := hI
  have hR := ly_RelC hC (a := a) (b := b) (c := c) hk det hd
  refine ⟨_, ?_, hR⟩
  have e6 : ∀ (x y z : Nat) (u v q : Int32), (sA (sA (sA C x (D 0 2) u) y (D 0 2) v) z (D 0 2) q).1 6 = nI (D 0 2) := fun _ _ _ _ _ _ => hC.la
  have e6' : ∀ (x y : Nat) (u v : Int32), (sA (sA C x (D 0 2) u) y (D 0 2) v).1 6 = nI (D 0 2) := fun _ _ _ _ => hC.la
  have e6'' : ∀ (x : Nat) (u : Int32), (sA C x (D 0 2) u).1 6 = nI (D 0 2) := fun _ _ => hC.la
  unfold pX6_addLayer pX2_append
  rw [hC.la, if_pos (show nI (D 0 2) < 6 from nltI (b := 6) (by omega) (by decide) hk)]
  simp only [gd_ix hk, ltv, nI_clp (show D 0 2 < 2 ^ 31 by omega), e6, e6', e6'', nI_1]
  rw [bd_t rfl]
  simp only [show ∀ (T : St) (v : Int32), (sS T 6 v).1 6 = v from fun _ _ => sS_eq, nI_1]
theorem cAddL_no (hC : RelC D i o C) (w : WF D) (hk : ¬ D 0 2 < 6) (x y z : Int32) : pX6_addLayer C x y z = some (.inl (3, C)) := by
  have := w.la
  unfold pX6_addLayer
  rw [hC.la, if_neg (show ¬ nI (D 0 2) < 6 from nltN (b := 6) (by omega) (by decide) (by omega))]
theorem mLayer (hM : RelM D i o M) {kd a b c : Nat} (hk : D 0 2 < 6) (h2 : vp_nar .char (lch kd) = lch kd) : ∃ M', pX7_layer M (lch kd) (nI a) (nI b) (nI c) = some (nI (D 0 2 + 2), M') ∧ RelM (lyD D kd a b c) i o M' ∧ M'.1 7 = M.1 7 := by
  have hR := ly_RelM hM (kd := kd) (a := a) (b := b) (c := c) hk
  refine ⟨_, ?_, hR, ?_⟩
  · have e2 : ∀ (x : Nat) (u : Int32), (sA M x (D 0 2) u).1 2 = nI (D 0 2) := fun _ _ => hM.la
    have e2' : ∀ (x y : Nat) (u v : Int32), (sA (sA M x (D 0 2) u) y (D 0 2) v).1 2 = nI (D 0 2) := fun _ _ _ _ => hM.la
    have e2'' : ∀ (x y z : Nat) (u v q : Int32), (sA (sA (sA M x (D 0 2) u) y (D 0 2) v) z (D 0 2) q).1 2 = nI (D 0 2) := fun _ _ _ _ _ _ => hM.la
    have e2''' : ∀ (x y z t : Nat) (u v q s : Int32), (sA (sA (sA (sA M x (D 0 2) u) y (D 0 2) v) z (D 0 2) q) t (D 0 2) s).1 2 = nI (D 0 2) := fun _ _ _ _ _ _ _ _ => hM.la
    unfold pX7_layer
    rw [hM.la]
    simp only [gd_ix hk, ltv, nI_clp (show D 0 2 < 2 ^ 31 by omega), h2, e2, e2', e2'', e2''', nI_1, show ∀ (T : St) (v : Int32), (sS T 2 v).1 2 = v from fun _ _ => sS_eq]
  · rw [sS_ne (by decide)]; rfl
theorem ly_inv (hI : InvD D i o C M) {kd a b c : Nat} (hk : D 0 2 < 6) (h1 : kd ≤ 2) (h2 : c ≤ 999) (h3 : kd = 0 → a < D 0 0 ∧ b < D 0 0) (h4 : kd = 1 → c ≤ 100) (h5 : kd = 2 → a ≤ 12) {C' M' : St} (hC : RelC (lyD D kd a b c) i o C') (hM : RelM (lyD D kd a b c) i o M') : Inv C' M' := by
  obtain ⟨w, ⟨hi, ho⟩, ⟨S, s1, s2⟩, -, -⟩ := hI
  have e0 : lyD D kd a b c 0 0 = D 0 0 := ly_0 (by decide)
  refine ⟨lyD D kd a b c, i, o, ly_wf w hk h1 h2 h3 h4 h5, ⟨by rw [e0]; exact hi, by rw [e0]; exact ho⟩, ⟨S, by rw [e0]; exact s1, ?_⟩, hC, hM⟩
  rw [cmpl_cong (fun S => ly_good S)]; exact s2
/-- an amount in a range -/
theorem amt (x : Int32) (m : Nat) (hm : m < 2 ^ 30) : (∃ c, c ≤ m ∧ x = nI c ∧ (∀ M, pX7_isIn M x 0 (nI m) = some 1) ∧ ¬ x < 0 ∧ x ≤ nI m) ∨ ((∀ M, pX7_isIn M x 0 (nI m) = some 0) ∧ (x < 0 ∨ (¬ x < 0 ∧ ¬ x ≤ nI m))) := by
  rcases pk_ix x (show m + 1 < 2 ^ 31 by omega) with h | h | ⟨c, hc, rfl⟩
  · refine Or.inr ⟨fun M => ?_, Or.inl h⟩
    unfold pX7_isIn
    rw [if_pos h]
  · have hh := ile.mp h
    rw [nI_toInt (by omega)] at hh
    have h0 : ¬ x < 0 := fun q => by
      have a := ilt.mp q
      have e0 : (0 : Int32).toInt = 0 := by decide
      omega
    have h1 : nI m < x := ilt.mpr (by rw [nI_toInt (by omega)]; omega)
    refine Or.inr ⟨fun M => ?_, Or.inr ⟨h0, fun q => by have a := ilt.mp h1; have b := ile.mp q; omega⟩⟩
    unfold pX7_isIn
    rw [if_neg h0, if_pos h1]
  · refine Or.inl ⟨c, by omega, rfl, fun M => ?_, nI_pos (by omega), nleI (by omega) (by omega) (by omega)⟩
    have := mIsIn M (n := c) (lo := 0) (hi := m) (by omega) (by decide) (by omega)
    rw [decide_eq_true (Nat.zero_le c), decide_eq_true (show c ≤ m by omega)] at this
    exact this
def cdAB (k : Nat) : Nat := if k = 1 then 1 else if k = 2 then 2 else if k = 3 then 3 else 0
def cdAP (k : Nat) : Nat := if k = 2 then 1 else if k = 3 then 2 else 0
theorem la6 (hM : RelM D i o M) (w : WF D) : (M.1 2 = 6) ↔ ¬ D 0 2 < 6 := by
  have := w.la
  rw [hM.la]
  exact (nI_eq (b := 6) (by omega) (by decide)).trans (by omega)
theorem aBundle (hI : InvD D i o C M) (x y z : Int32) : Agr cdAB (pX6_addBundle C x y z) (pX7_addBundle M x y z) := by
  have hI0 := hI
  obtain ⟨w, ⟨hi, ho⟩, hex, hC, hM⟩ := hI
  obtain ⟨n1, n2⟩ := w.n
  have no : ∀ b, pX7_addBundle_22 M x y z 1 = b → Agr cdAB (some (.inl (1, C))) b := fun b hb => by
    unfold pX7_addBundle_22 at hb
    rw [bd_t (mT1 M 1), if_neg (show ¬ (1 : Int32) = 0 by decide)] at hb
    subst hb
    exact ⟨_, _, _, rfl, (hI0.m (hM.thr 1)).inv, Or.inl ⟨1, rfl, by decide, sS_eq⟩⟩
  unfold pX6_addBundle pX7_addBundle pX7_addBundle_17
  rcases feat w x with ⟨f, hf, rfl, f1, f2⟩ | ⟨f1, f2⟩
  · rw [tb_t (f1 C i o hC), bd_t (f2 M i o hM), if_pos rfl]
    rcases feat w y with ⟨g, hg, rfl, g1, g2⟩ | ⟨g1, g2⟩
    · rw [tb_t (g1 C i o hC), bd_t (g2 M i o hM), if_pos rfl]
      have h1 := hM.thr 0
      have h2 := h1.thr 0
      unfold pX7_addBundle_22 pX7_addBundle_46 pX6_addBundle_21
      rw [bd_t (mT0 M 1), if_pos rfl]
      rcases amt z 999 (by decide) with ⟨c, hc, rfl, z1, z2, z3⟩ | ⟨z1, z2⟩
      · have z3' : nI c ≤ 999 := z3
        rw [if_neg z2, if_pos z3', bd_t (show pX7_isIn (sS M 7 0) (nI c) 0 999 = _ from z1 _), if_neg (show ¬ (1 : Int32) = 0 by decide), bd_t (mT0 (sS M 7 0) 2), if_pos rfl]
        unfold pX7_addBundle_68
        by_cases hk : D 0 2 < 6
        · rw [if_neg (show ¬ (sS (sS M 7 0) 7 0).1 2 = 6 from fun q => ((la6 h2 w).mp q) hk), bd_t (mT0 _ 3), if_pos rfl]
          obtain ⟨C', c1, c2⟩ := cAddL hI0 (kd := 0) (a := f) (b := g) (c := c) hk (nI (2 ^ f) ||| nI (2 ^ g)) (by rw [nI_lor, if_pos rfl])
          obtain ⟨M', m1, m2, m3⟩ := mLayer (h2.thr 0) (kd := 0) (a := f) (b := g) (c := c) hk (by decide)
          rw [nI_sh f (by omega), nI_sh g (by omega), tb_t (show pX6_addLayer C 0 (nI (2 ^ f) ||| nI (2 ^ g)) (nI c) = _ from c1), bd_t (show pX7_layer (sS (sS (sS M 7 0) 7 0) 7 0) 98 (nI f) (nI g) (nI c) = _ from m1)]
          exact ⟨_, _, _, rfl, ly_inv hI0 hk (by decide) hc (fun _ => ⟨hf, hg⟩) (fun q => by cases q) (fun q => by cases q) c2 m2, Or.inr ⟨rfl, m3.trans sS_eq⟩⟩
        · rw [if_pos (show (sS (sS M 7 0) 7 0).1 2 = 6 from (la6 h2 w).mpr hk), bd_t (mT1 _ 3), if_neg (show ¬ (1 : Int32) = 0 by decide), tb_e (cAddL_no hC w hk _ _ _)]
          exact ⟨_, _, _, rfl, (hI0.m (h2.thr 3)).inv, Or.inl ⟨3, rfl, by decide, sS_eq⟩⟩
      · rw [bd_t (show pX7_isIn (sS M 7 0) z 0 999 = _ from z1 _), if_pos rfl, bd_t (mT1 (sS M 7 0) 2), if_neg (show ¬ (1 : Int32) = 0 by decide)]
        have e : (if z < 0 then some (.inl (2, C)) else if z ≤ 999 then tb (pX6_addLayer C 0 (((1 : Int32) <<< (nI f &&& 31)) ||| ((1 : Int32) <<< (nI g &&& 31))) z) (fun e => e) (fun u_3 => some (.inr (u_3.1, u_3.2))) else some (.inl (2, C))) = some ((.inl (2, C)) : (Nat × St) ⊕ (Int32 × St)) := by
          rcases z2 with z2 | ⟨z2, z3⟩
          · rw [if_pos z2]
          · rw [if_neg z2, if_neg (show ¬ z ≤ 999 from z3)]
        rw [e]
        exact ⟨_, _, _, rfl, (hI0.m (h1.thr 2)).inv, Or.inl ⟨2, rfl, by decide, sS_eq⟩⟩
    · rw [tb_e (g1 C i o hC), bd_t (g2 M i o hM), if_neg (show ¬ (1 : Int32) = 0 by decide)]
      exact no _ rfl
  · rw [tb_e (f1 C i o hC), bd_t (f2 M i o hM), if_neg (show ¬ (1 : Int32) = 0 by decide)]
    exact no _ rfl
theorem aPercent (hI : InvD D i o C M) (z : Int32) : Agr cdAP (pX6_addPercent C z) (pX7_addPercent M z) := by
  have hI0 := hI
  obtain ⟨w, ⟨hi, ho⟩, hex, hC, hM⟩ := hI
  have h1 := hM.thr 0
  unfold pX6_addPercent pX7_addPercent pX6_addPercent_10 pX7_addPercent_16
  rcases amt z 100 (by decide) with ⟨c, hc, rfl, z1, z2, z3⟩ | ⟨z1, z2⟩
  · have z3' : nI c ≤ 100 := z3
    rw [if_neg z2, if_pos z3', bd_t (show pX7_isIn M (nI c) 0 100 = _ from z1 _), if_neg (show ¬ (1 : Int32) = 0 by decide), bd_t (mT0 M 1), if_pos rfl]
    unfold pX7_addPercent_38
    by_cases hk : D 0 2 < 6
    · rw [if_neg (show ¬ (sS M 7 0).1 2 = 6 from fun q => ((la6 h1 w).mp q) hk), bd_t (mT0 _ 2), if_pos rfl]
      obtain ⟨C', c1, c2⟩ := cAddL hI0 (kd := 1) (a := 0) (b := 0) (c := c) hk 0 rfl
      obtain ⟨M', m1, m2, m3⟩ := mLayer (h1.thr 0) (kd := 1) (a := 0) (b := 0) (c := c) hk (by decide)
      rw [tb_t (show pX6_addLayer C 1 0 (nI c) = _ from c1), bd_t (show pX7_layer (sS (sS M 7 0) 7 0) 112 0 0 (nI c) = _ from m1)]
      exact ⟨_, _, _, rfl, ly_inv hI0 hk (by decide) (by omega) (fun q => by cases q) (fun _ => hc) (fun q => by cases q) c2 m2, Or.inr ⟨rfl, m3.trans sS_eq⟩⟩
    · rw [if_pos (show (sS M 7 0).1 2 = 6 from (la6 h1 w).mpr hk), bd_t (mT1 _ 2), if_neg (show ¬ (1 : Int32) = 0 by decide), tb_e (cAddL_no hC w hk _ _ _)]
      exact ⟨_, _, _, rfl, (hI0.m (h1.thr 2)).inv, Or.inl ⟨3, rfl, by decide, sS_eq⟩⟩
  · rw [bd_t (show pX7_isIn M z 0 100 = _ from z1 _), if_pos rfl, bd_t (mT1 M 1), if_neg (show ¬ (1 : Int32) = 0 by decide)]
    have e : (if z < 0 then some (.inl (2, C)) else if z ≤ 100 then tb (pX6_addLayer C 1 0 z) (fun e => e) (fun u_1 => some (.inr (u_1.1, u_1.2))) else some (.inl (2, C))) = some ((.inl (2, C)) : (Nat × St) ⊕ (Int32 × St)) := by
      rcases z2 with z2 | ⟨z2, z3⟩
      · rw [if_pos z2]
      · rw [if_neg z2, if_neg (show ¬ z ≤ 100 from z3)]
    rw [e]
    exact ⟨_, _, _, rfl, (hI0.m (hM.thr 1)).inv, Or.inl ⟨2, rfl, by decide, sS_eq⟩⟩
theorem aSurcharge (hI : InvD D i o C M) (x z : Int32) : Agr cdAP (pX6_addSurcharge C x z) (pX7_addSurcharge M x z) := by
  have hI0 := hI
  obtain ⟨w, ⟨hi, ho⟩, hex, hC, hM⟩ := hI
  have h1 := hM.thr 0
  have no : Agr cdAP (some (.inl (2, C))) (pX7_addSurcharge_27 M x z 1) := by
    unfold pX7_addSurcharge_27
    rw [bd_t (mT1 M 1), if_neg (show ¬ (1 : Int32) = 0 by decide)]
    exact ⟨_, _, _, rfl, (hI0.m (hM.thr 1)).inv, Or.inl ⟨2, rfl, by decide, sS_eq⟩⟩
  unfold pX6_addSurcharge pX7_addSurcharge pX6_addSurcharge_21 pX7_addSurcharge_22
  rcases amt x 12 (by decide) with ⟨a, ha, rfl, x1, x2, x3⟩ | ⟨x1, x2⟩
  · have x3' : ¬ (12 : Int32) < nI a := fun q => by
      have p := ilt.mp q; have r := ile.mp x3
      have e : (12 : Int32).toInt = (nI 12).toInt := rfl
      omega
    rw [if_neg x2, if_neg x3', bd_t (show pX7_isIn M (nI a) 0 12 = _ from x1 _), if_neg (show ¬ (1 : Int32) = 0 by decide)]
    rcases amt z 999 (by decide) with ⟨c, hc, rfl, z1, z2, z3⟩ | ⟨z1, z2⟩
    · have z3' : nI c ≤ 999 := z3
      rw [if_neg z2, if_pos z3', bd_t (show pX7_isIn M (nI c) 0 999 = _ from z1 _), if_neg (show ¬ (1 : Int32) = 0 by decide)]
      unfold pX7_addSurcharge_27 pX7_addSurcharge_49
      rw [bd_t (mT0 M 1), if_pos rfl]
      by_cases hk : D 0 2 < 6
      · rw [if_neg (show ¬ (sS M 7 0).1 2 = 6 from fun q => ((la6 h1 w).mp q) hk), bd_t (mT0 _ 2), if_pos rfl]
        obtain ⟨C', c1, c2⟩ := cAddL hI0 (kd := 2) (a := a) (b := 0) (c := c) hk (nI a) rfl
        obtain ⟨M', m1, m2, m3⟩ := mLayer (h1.thr 0) (kd := 2) (a := a) (b := 0) (c := c) hk (by decide)
        rw [tb_t (show pX6_addLayer C 2 (nI a) (nI c) = _ from c1), bd_t (show pX7_layer (sS (sS M 7 0) 7 0) 115 (nI a) 0 (nI c) = _ from m1)]
        exact ⟨_, _, _, rfl, ly_inv hI0 hk (by decide) hc (fun q => by cases q) (fun q => by cases q) (fun _ => ha) c2 m2, Or.inr ⟨rfl, m3.trans sS_eq⟩⟩
      · rw [if_pos (show (sS M 7 0).1 2 = 6 from (la6 h1 w).mpr hk), bd_t (mT1 _ 2), if_neg (show ¬ (1 : Int32) = 0 by decide), tb_e (cAddL_no hC w hk _ _ _)]
        exact ⟨_, _, _, rfl, (hI0.m (h1.thr 2)).inv, Or.inl ⟨3, rfl, by decide, sS_eq⟩⟩
    · rw [bd_t (show pX7_isIn M z 0 999 = _ from z1 _), if_pos rfl]
      have e : (if z < 0 then some (.inl (2, C)) else if z ≤ 999 then tb (pX6_addLayer C 2 (nI a) z) (fun e => e) (fun u_1 => some (.inr (u_1.1, u_1.2))) else some (.inl (2, C))) = some ((.inl (2, C)) : (Nat × St) ⊕ (Int32 × St)) := by
        rcases z2 with z2 | ⟨z2, z3⟩
        · rw [if_pos z2]
        · rw [if_neg z2, if_neg (show ¬ z ≤ 999 from z3)]
      rw [e]; exact no
  · rw [bd_t (show pX7_isIn M x 0 12 = _ from x1 _), if_pos rfl]
    have e : ∀ q : Option ((Nat × St) ⊕ (Int32 × St)), (if x < 0 then some (.inl (2, C)) else if 12 < x then some (.inl (2, C)) else q) = some ((.inl (2, C)) : (Nat × St) ⊕ (Int32 × St)) := fun q => by
      rcases x2 with x2 | ⟨x2, x3⟩
      · rw [if_pos x2]
      · rw [if_neg x2, if_pos (ilt.mpr (by
          have h3 : ¬ x.toInt ≤ (nI 12).toInt := fun z => x3 (ile.mpr z)
          have e2 : (12 : Int32).toInt = 12 := by decide
          have e3 : (nI 12).toInt = 12 := by decide
          rw [e3] at h3
          rw [e2]; omega))]
    rw [e]; exact no
end Lay2
