/-! ===== p39: the law's rules ===== -/
section LRuleC
variable {D : Dt} {i o : Nat} {C : St}
theorem oAddR (hI : InvC D i o C) (hn : D 0 1 < 20) {kd a b c : Nat} (hk : kd ≤ 2) (ha : a < D 0 0) (hb : b < D 0 0) (hc : c < D 0 0) (h1 : kd ≠ 2 → c = a) (h2 : a ≠ b) (h3 : kd = 2 → a ≠ c ∧ b ≠ c) (x y z : Int32) (hx : x = nI (if kd = 0 then 2 ^ b else if kd = 1 then 0 else 2 ^ a ||| 2 ^ b ||| 2 ^ c)) (hy : y = nI (if kd = 0 then 2 ^ a else if kd = 1 then 2 ^ a ||| 2 ^ b else 0)) (hz : z = nI (if kd = 2 then max a (max b c) else max a b)) : (∃ C', pX6_addRule C x y z = some (.inr (nI (D 0 1), C')) ∧ InvC (ruD D kd a b c) i o C') ∨ (¬ Pos (ruD D kd a b c) i o ∧ ∃ C', pX6_addRule C x y z = some (.inl (4, C')) ∧ InvC D i o C') := by
  obtain ⟨w, ⟨hi, ho⟩, hex, hC⟩ := hI
  obtain ⟨n1, n2, n3, n4⟩ := w.1
  have c3 : ∀ (u v s : Nat) (p q r : Int32), (sA (sA (sA C u (D 0 1) p) v (D 0 1) q) s (D 0 1) r).1 4 = nI (forceM D) := fun _ _ _ _ _ _ => hC.fo
  have c4 : ∀ (u v s : Nat) (p q r t : Int32), (sS (sA (sA (sA C u (D 0 1) p) v (D 0 1) q) s (D 0 1) r) 4 t).1 5 = nI (D 0 1) := fun _ _ _ _ _ _ _ => by rw [sS_ne (by decide)]; exact hC.r
  unfold pX6_addRule
  rw [hC.r, if_pos (show nI (D 0 1) < 20 from nltI (b := 20) (by omega) (by decide) hn)]
  unfold pX3_append
  simp only [ltv, hC.r, c3, c4, gd_ix hn, nI_clp (show D 0 1 < 2 ^ 31 by omega), nI_sh (D 0 1) (show D 0 1 < 31 by omega), nI_lor, nI_1]
  have w' := ru_wf w hn hk ha hb hc h1 h2 h3
  have hR := ru_RelC hC x y z hx hy hz
  have e00 : ruD D kd a b c 0 0 = D 0 0 := ru_0 (by decide)
  have hi' : i < 2 ^ ruD D kd a b c 0 0 := by rw [e00]; exact hi
  have ho' : o < 2 ^ ruD D kd a b c 0 0 := by rw [e00]; exact ho
  obtain ⟨v, v1, v2⟩ := cHasCmpl hR w' hi' ho'
  rw [bd_t rfl, bd_t v1]
  cases v with
  | false =>
    right
    rw [if_pos (show b2i false = 0 from rfl)]
    have hB := ru_backC hC x y z (nI (forceM D)) (nI (D 0 1)) rfl rfl (nI (forceM D ||| 2 ^ D 0 1)) (nI (D 0 1 + 1))
    have s1 : nI (D 0 1 + 1) - 1 = nI (D 0 1) := (pk_sub (a := D 0 1 + 1) (b := 1) (by omega)).trans (by rw [Nat.add_sub_cancel])
    have hf : (forceM D).testBit (D 0 1) = false := tb_lt (forceM_lt D) (Nat.le_refl _)
    unfold pX3_dropLast
    simp only [ltv, sS_eq]
    have g5 : ∀ (T : St) (p q : Int32), (sS (sS T 4 p) 5 q).1 4 = p := fun T p q => by rw [sS_ne (by decide), sS_eq]
    have g4 : ∀ (T : St) (p q r : Int32), (sS (sS (sS T 4 p) 5 q) 5 r).1 4 = p := fun T p q r => by rw [sS_ne (by decide), sS_ne (by decide), sS_eq]
    simp only [g4, s1, nI_sh (D 0 1) (show D 0 1 < 31 by omega), nI_adn, adn_undo hf]
    rw [bd_t rfl]
    exact ⟨fun q => absurd (v2.mpr q) (by decide), _, rfl, w, ⟨hi, ho⟩, hex, hB⟩
  | true =>
    left
    rw [if_neg (show ¬ b2i true = 0 by decide)]
    exact ⟨_, rfl, w', ⟨hi', ho'⟩, v2.mp rfl, hR⟩
theorem oAddRfull (hC : RelC D i o C) (w : WF D) (hn : D 0 1 = 20) (x y z : Int32) : pX6_addRule C x y z = some (.inl (3, C)) := by
  unfold pX6_addRule
  rw [hC.r, if_neg (show ¬ nI (D 0 1) < 20 from nltN (b := 20) (by omega) (by decide) (by omega))]
/-- the class's call for a rule of the kind kd -/
def pRu (kd : Nat) (C : St) (a b c : Nat) : Option ((Nat × St) ⊕ (Int32 × St)) := if kd = 0 then pX6_require C (nI a) (nI b) else if kd = 1 then pX6_exclude C (nI a) (nI b) else pX6_any C (nI a) (nI b) (nI c)
abbrev badR (kd a b c : Nat) : Prop := a = b ∨ (kd = 2 ∧ (a = c ∨ b = c))
theorem nIne {a b : Nat} (ha : a < D 0 0) (hb : b < D 0 0) (w : WF D) (h : a ≠ b) : ¬ nI a = nI b := fun q => by
  have := w.n.2
  exact h ((nI_eq (by omega) (by omega)).mp q)
theorem oRuBad (w : WF D) (hC : RelC D i o C) {kd a b c : Nat} (hk : kd ≤ 2) (ha : a < D 0 0) (hb : b < D 0 0) (hc : c < D 0 0) (h : badR kd a b c) : pRu kd C a b c = some (.inl (2, C)) := by
  have fa := oFeat w hC ha
  have fb := oFeat w hC hb
  have fc := oFeat w hC hc
  unfold pRu
  rcases (show kd = 0 ∨ kd = 1 ∨ kd = 2 by omega) with q | q | q
  · rw [if_pos q]
    rcases h with h | ⟨h, _⟩
    · unfold pX6_require pX6_checkDifferent
      rw [tb_t fa, tb_t fb, if_pos (show nI a = nI b by rw [h]), tb_e rfl]
    · omega
  · rw [if_neg (by omega), if_pos q]
    rcases h with h | ⟨h, _⟩
    · unfold pX6_exclude pX6_checkDifferent
      rw [tb_t fa, tb_t fb, if_pos (show nI a = nI b by rw [h]), tb_e rfl]
    · omega
  · rw [if_neg (by omega), if_neg (by omega)]
    unfold pX6_any pX6_checkDifferent
    rw [tb_t fa, tb_t fb, tb_t fc]
    by_cases y1 : a = b
    · rw [if_pos (show nI a = nI b by rw [y1]), tb_e rfl]
    · rw [if_neg (nIne ha hb w y1), tb_t rfl]
      by_cases y2 : a = c
      · rw [if_pos (show nI a = nI c by rw [y2]), tb_e rfl]
      · have y3 : b = c := by
          rcases h with h | ⟨_, h | h⟩
          · exact absurd h y1
          · exact absurd h y2
          · exact h
        rw [if_neg (nIne ha hc w y2), tb_t rfl, if_pos (show nI b = nI c by rw [y3]), tb_e rfl]
/-- what is added: the third of a rule of two is its first -/
def thr (kd a c : Nat) : Nat := if kd = 2 then c else a
theorem oRu (hI : InvC D i o C) {kd a b c : Nat} (hk : kd ≤ 2) (ha : a < D 0 0) (hb : b < D 0 0) (hc : c < D 0 0) (h : ¬ badR kd a b c) : ∃ x y z, x = nI (if kd = 0 then 2 ^ b else if kd = 1 then 0 else 2 ^ a ||| 2 ^ b ||| 2 ^ (thr kd a c)) ∧ y = nI (if kd = 0 then 2 ^ a else if kd = 1 then 2 ^ a ||| 2 ^ b else 0) ∧ z = nI (if kd = 2 then max a (max b (thr kd a c)) else max a b) ∧ pRu kd C a b c = tb (pX6_addRule C x y z) (fun e => e) (fun u => some (.inr (u.1, u.2))) := by
  obtain ⟨w, _, _, hC⟩ := hI
  have n2 := w.n.2
  have fa := oFeat w hC ha
  have fb := oFeat w hC hb
  have fc := oFeat w hC hc
  have hab : a ≠ b := fun q => h (Or.inl q)
  unfold pRu
  rcases (show kd = 0 ∨ kd = 1 ∨ kd = 2 by omega) with q | q | q
  · subst q
    refine ⟨((1 : Int32) <<< (nI b &&& 31)), ((1 : Int32) <<< (nI a &&& 31)), (if nI a < nI b then nI b else nI a), ?_, ?_, ?_, ?_⟩
    rotate_left 3
    · rw [if_pos rfl]
      unfold pX6_require pX6_checkDifferent
      rw [tb_t fa, tb_t fb, if_neg (nIne ha hb w hab), tb_t rfl]
    · rw [nI_sh b (by omega)]; rfl
    · rw [nI_sh a (by omega)]; rfl
    · rw [maxI (by omega) (by omega)]; rfl
  · subst q
    refine ⟨0, (((1 : Int32) <<< (nI a &&& 31)) ||| ((1 : Int32) <<< (nI b &&& 31))), (if nI a < nI b then nI b else nI a), ?_, ?_, ?_, ?_⟩
    rotate_left 3
    · rw [if_neg (by decide), if_pos rfl]
      unfold pX6_exclude pX6_checkDifferent
      rw [tb_t fa, tb_t fb, if_neg (nIne ha hb w hab), tb_t rfl]
    · rfl
    · rw [nI_sh a (by omega), nI_sh b (by omega), nI_lor]; rfl
    · rw [maxI (by omega) (by omega)]; rfl
  · subst q
    have hac : a ≠ c := fun q => h (Or.inr ⟨rfl, Or.inl q⟩)
    have hbc : b ≠ c := fun q => h (Or.inr ⟨rfl, Or.inr q⟩)
    refine ⟨(((1 : Int32) <<< (nI a &&& 31)) ||| ((1 : Int32) <<< (nI b &&& 31)) ||| ((1 : Int32) <<< (nI c &&& 31))), 0, (if nI a < (if nI b < nI c then nI c else nI b) then (if nI b < nI c then nI c else nI b) else nI a), ?_, ?_, ?_, ?_⟩
    rotate_left 3
    · rw [if_neg (by decide), if_neg (by decide)]
      unfold pX6_any pX6_checkDifferent
      rw [tb_t fa, tb_t fb, tb_t fc, if_neg (nIne ha hb w hab), tb_t rfl, if_neg (nIne ha hc w hac), tb_t rfl, if_neg (nIne hb hc w hbc), tb_t rfl]
      rfl
    · rw [nI_sh a (by omega), nI_sh b (by omega), nI_sh c (by omega), nI_lor, nI_lor]; rfl
    · rfl
    · rw [maxI (a := b) (b := c) (by omega) (by omega), maxI (by omega) (by omega)]; rfl
theorem oRuFull (hI : InvC D i o C) (hn : D 0 1 = 20) {kd a b c : Nat} (hk : kd ≤ 2) (ha : a < D 0 0) (hb : b < D 0 0) (hc : c < D 0 0) (h : ¬ badR kd a b c) : pRu kd C a b c = some (.inl (3, C)) := by
  obtain ⟨x, y, z, _, _, _, e⟩ := oRu hI hk ha hb hc h
  rw [e, tb_e (oAddRfull hI.2.2.2 hI.1 hn x y z)]
theorem oRuOk (hI : InvC D i o C) (hn : D 0 1 < 20) {kd a b c : Nat} (hk : kd ≤ 2) (ha : a < D 0 0) (hb : b < D 0 0) (hc : c < D 0 0) (h : ¬ badR kd a b c) : (∃ C', pRu kd C a b c = some (.inr (nI (D 0 1), C')) ∧ InvC (ruD D kd a b (thr kd a c)) i o C') ∨ (¬ Pos (ruD D kd a b (thr kd a c)) i o ∧ ∃ C', pRu kd C a b c = some (.inl (4, C')) ∧ InvC D i o C') := by
  obtain ⟨x, y, z, hx, hy, hz, e⟩ := oRu hI hk ha hb hc h
  have hab : a ≠ b := fun q => h (Or.inl q)
  have ht : thr kd a c < D 0 0 := by unfold thr; split <;> assumption
  have := oAddR hI hn (kd := kd) (a := a) (b := b) (c := thr kd a c) hk ha hb ht (fun q => by unfold thr; rw [if_neg q]) hab (fun q => by
    unfold thr
    rw [if_pos q]
    exact ⟨fun r => h (Or.inr ⟨q, Or.inl r⟩), fun r => h (Or.inr ⟨q, Or.inr r⟩)⟩) x y z hx hy hz
  rw [e]
  rcases this with ⟨C', c1, c2⟩ | ⟨c0, C', c1, c2⟩
  · left
    exact ⟨C', by rw [tb_t c1], c2⟩
  · right
    exact ⟨c0, C', by rw [tb_e c1], c2⟩
def cdRu (k : Nat) : Int32 := if k = 1 then (-900001) else if k = 2 then (-900002) else if k = 3 then (-900003) else if k = 4 then (-900004) else 0
theorem l171 {kd a b c : Nat} (hk : kd ≤ 2) (x8 : Int32) : pL_isRule_171 C (nI kd) (nI a) (nI b) (nI c) x8 = bd (wresW (pRu kd C a b c) cdRu (fun r => r)) (fun u => if u.1 = x8 then some (1, mg u.2 C) else some (0, mg u.2 C)) := by
  unfold pL_isRule_171 pRu pL_isRule_209
  rcases (show kd = 0 ∨ kd = 1 ∨ kd = 2 by omega) with q | q | q <;> subst q
  · rfl
  · rfl
  · rfl
/-- the row, of which k places are the copy's -/
def stk (C : St) (k : Nat) : St := (C.1, va_up C.2 14 (fun j => if j < k then C.2 15 j else C.2 14 j))
theorem stk_0 : stk C 0 = C := by
  refine Prod.ext rfl (funext fun j => ?_)
  by_cases h : j = 14
  · subst h
    funext x
    show (if x < 0 then C.2 15 x else C.2 14 x) = C.2 14 x
    exact if_neg (Nat.not_lt_zero x)
  · exact va_up_ne _ _ h
theorem stk_s {k : Nat} : sA (stk C k) 14 k (C.2 15 k) = stk C (k + 1) := by
  refine Prod.ext rfl (funext fun j => ?_)
  by_cases h : j = 14
  · subst h
    funext x
    show (if x = k then C.2 15 k else (if x < k then C.2 15 x else C.2 14 x)) = (if x < k + 1 then C.2 15 x else C.2 14 x)
    by_cases y : x = k
    · rw [if_pos y, if_pos (by omega), y]
    · rw [if_neg y]
      by_cases z : x < k
      · rw [if_pos z, if_pos (by omega)]
      · rw [if_neg z, if_neg (by omega)]
  · exact ((va_up_ne _ _ h).trans (va_up_ne _ _ h)).trans (va_up_ne _ _ h).symm
theorem stk_alk {C0 : St} (h : Alk C C0) {k : Nat} : Alk (stk C k) C0 := ⟨h.1, fun j hj => (va_up_ne _ _ (by omega)).trans (h.2 j hj)⟩
theorem stk_14 {k j : Nat} (h : j < k) : (stk C k).2 14 j = C.2 15 j := by
  show (if j < k then C.2 15 j else C.2 14 j) = _
  exact if_pos h
theorem stk_15 {k : Nat} : (stk C k).2 15 = C.2 15 := rfl
theorem l144 {kd a b c m : Nat} (hm : m < 2 ^ 31) : pL_isRule_144 FU C (nI kd) (nI a) (nI b) (nI c) (nI m) 0 = pL_isRule_171 (stk C 250) (nI kd) (nI a) (nI b) (nI c) (nI m) := by
  have key : pL_isRule_144 FU (stk C 0) (nI kd) (nI a) (nI b) (nI c) (nI m) (nI 0) = pL_isRule_171 (stk C 250) (nI kd) (nI a) (nI b) (nI c) (nI m) := by
    refine loopF (F := fun N k => pL_isRule_144 N (stk C k) (nI kd) (nI a) (nI b) (nI c) (nI m) (nI k)) (m := 250) (fun N => ?_) (fun N k hk => Or.inl ?_) FU 0 (Nat.zero_le _) (by unfold FU; omega)
    · show pL_isRule_144_b (pL_isRule_144 N) (stk C 250) (nI kd) (nI a) (nI b) (nI c) (nI m) (nI 250) = _
      unfold pL_isRule_144_b
      rw [if_pos (show (250 : Int32) ≤ nI 250 by decide)]
    · show pL_isRule_144_b (pL_isRule_144 N) (stk C k) (nI kd) (nI a) (nI b) (nI c) (nI m) (nI k) = pL_isRule_144 N (stk C (k + 1)) (nI kd) (nI a) (nI b) (nI c) (nI m) (nI (k + 1))
      unfold pL_isRule_144_b
      rw [if_neg (show ¬ (250 : Int32) ≤ nI k from nleN (a := 250) (by decide) (by omega) hk), if_neg (nI_pos hm), gd_ix hk, gd_ix hk, nI_clp (show k < 2 ^ 31 by omega)]
      simp only [ltv, p1c, stk_15]
      rw [stk_s]
  rw [stk_0] at key
  exact key
theorem l144n {kd a b c : Nat} {x8 : Int32} (h : x8 < 0) : pL_isRule_144 FU C (nI kd) (nI a) (nI b) (nI c) x8 0 = pL_isRule_171 C (nI kd) (nI a) (nI b) (nI c) x8 := by
  refine loopF (F := fun N _ => pL_isRule_144 N C (nI kd) (nI a) (nI b) (nI c) x8 0) (m := 0) (fun N => ?_) (fun N k hk => absurd hk (Nat.not_lt_zero k)) FU 0 (Nat.le_refl _) (by unfold FU; omega)
  show pL_isRule_144_b (pL_isRule_144 N) C (nI kd) (nI a) (nI b) (nI c) x8 0 = _
  unfold pL_isRule_144_b
  rw [if_neg (show ¬ (250 : Int32) ≤ 0 by decide), if_pos h]
theorem l171ok {kd a b c : Nat} (hk : kd ≤ 2) {x8 : Int32} {u : St} (h : wresW (pRu kd C a b c) cdRu (fun r => r) = some (x8, u)) : pL_isRule_171 C (nI kd) (nI a) (nI b) (nI c) x8 = some (1, mg u C) := by
  rw [l171 hk, bd_t h, if_pos rfl]
theorem lBad {kd a b c : Nat} (hk : kd ≤ 2) (w : WF D) (ha : a < D 0 0) (hb : b < D 0 0) (hc : c < D 0 0) : pL_isRule C (nI kd) (nI a) (nI b) (nI c) = if badR kd a b c then pL_isRule_29 C (nI kd) (nI a) (nI b) (nI c) 1 else pL_isRule_29 C (nI kd) (nI a) (nI b) (nI c) 0 := by
  unfold pL_isRule pL_isRule_24 pL_isRule_28
  by_cases y1 : a = b
  · rw [if_pos (show nI a = nI b by rw [y1]), if_pos (show badR kd a b c from Or.inl y1)]
  · rw [if_neg (nIne ha hb w y1)]
    by_cases y : kd = 2
    · rw [if_pos (show nI kd = 2 by rw [y]; rfl)]
      by_cases y2 : a = c
      · rw [if_pos (show nI a = nI c by rw [y2]), if_pos (show badR kd a b c from Or.inr ⟨y, Or.inl y2⟩)]
      · rw [if_neg (nIne ha hc w y2)]
        by_cases y3 : b = c
        · rw [if_pos (show nI b = nI c by rw [y3]), if_pos (show badR kd a b c from Or.inr ⟨y, Or.inr y3⟩)]
        · rw [if_neg (nIne hb hc w y3), if_neg (show ¬ badR kd a b c from fun q => by
            rcases q with q | ⟨_, q | q⟩
            · exact y1 q
            · exact y2 q
            · exact y3 q)]
    · rw [if_neg (show ¬ nI kd = 2 from fun q => y ((nI_eq (b := 2) (by omega) (by decide)).mp q)), if_neg (show ¬ badR kd a b c from fun q => by
        rcases q with q | ⟨q, _⟩
        · exact y1 q
        · exact y q)]
theorem l100_1 {x2 x3 x4 x5 : Int32} : pL_isRule_100 C x2 x3 x4 x5 1 = pL_isRule_144 FU C x2 x3 x4 x5 (-900002) 0 := by
  unfold pL_isRule_100 pL_isRule_139
  rw [if_neg (show ¬ (1 : Int32) = 0 by decide)]
theorem l100_20 {x2 x3 x4 x5 : Int32} (h : C.2 14 (1 : Int32).toNatClampNeg = 20) : pL_isRule_100 C x2 x3 x4 x5 0 = pL_isRule_144 FU C x2 x3 x4 x5 (-900003) 0 := by
  unfold pL_isRule_100 pL_isRule_139
  rw [if_pos (show (0 : Int32) = 0 from rfl), gx1, if_pos h]
theorem l100_n {x2 x3 x4 x5 : Int32} (h : ¬ C.2 14 (1 : Int32).toNatClampNeg = 20) {y : Bool} (hb : pL_isPossible (nx C) = some (b2i y)) : pL_isRule_100 C x2 x3 x4 x5 0 = if b2i y = 0 then pL_isRule_144 FU C x2 x3 x4 x5 (-900004) 0 else pL_isRule_144 FU C x2 x3 x4 x5 (C.2 14 (1 : Int32).toNatClampNeg) 0 := by
  unfold pL_isRule_100 pL_isRule_139
  rw [if_pos (show (0 : Int32) = 0 from rfl), gx1, if_neg h, bd_t hb, gx1]
theorem l29_1 {x2 x3 x4 x5 : Int32} : pL_isRule_29 C x2 x3 x4 x5 1 = pL_isRule_100 (cp C) x2 x3 x4 x5 1 := by
  unfold pL_isRule_29
  rw [ltv, if_neg (show ¬ (1 : Int32) = 0 by decide)]
theorem l29_20 {x2 x3 x4 x5 : Int32} (h : 20 ≤ (cp C).2 14 (1 : Int32).toNatClampNeg) : pL_isRule_29 C x2 x3 x4 x5 0 = pL_isRule_100 (cp C) x2 x3 x4 x5 0 := by
  unfold pL_isRule_29
  rw [ltv, if_pos (show (0 : Int32) = 0 from rfl), gx1, if_pos h]
theorem l29_n {r kd a b c : Nat} (h : C.2 14 1 = nI r) (hr : r < 20) : pL_isRule_29 C (nI kd) (nI a) (nI b) (nI c) 0 = pL_isRule_100 (sA (sA (sA (sA (sA (cp C) 15 (110 + 5 * r) (nI kd)) 15 (110 + 5 * r + 1) (nI a)) 15 (110 + 5 * r + 2) (nI b)) 15 (110 + 5 * r + 3) (nI c)) 15 1 (nI (r + 1))) (nI kd) (nI a) (nI b) (nI c) 0 := by
  have e1 : (cp C).2 14 (1 : Int32).toNatClampNeg = nI r := h
  have e5 : (sA (sA (sA (sA (cp C) 15 (110 + 5 * r) (nI kd)) 15 (110 + 5 * r + 1) (nI a)) 15 (110 + 5 * r + 2) (nI b)) 15 (110 + 5 * r + 3) (nI c)).2 15 (1 : Int32).toNatClampNeg = nI r := by
    rw [z1c, s15, up_ne (by omega), s15, up_ne (by omega), s15, up_ne (by omega), s15, up_ne (by omega)]
    exact h
  unfold pL_isRule_29
  rw [ltv, if_pos (show (0 : Int32) = 0 from rfl), gx1, if_neg (show ¬ 20 ≤ (cp C).2 14 (1 : Int32).toNatClampNeg from fun q => nleN (a := 20) (b := r) (by decide) (by omega) hr (by rw [e1] at q; exact q)), gx1, e1, a110, ltv, gd_ix (show 110 + 5 * r < 250 by omega), nI_clp (show 110 + 5 * r < 2 ^ 31 by omega), ltv, p1c, gd_ix (show 110 + 5 * r + 1 < 250 by omega), nI_clp (show 110 + 5 * r + 1 < 2 ^ 31 by omega), ltv, p2c, gd_ix (show 110 + 5 * r + 2 < 250 by omega), nI_clp (show 110 + 5 * r + 2 < 2 ^ 31 by omega), ltv, p3c, gd_ix (show 110 + 5 * r + 3 < 250 by omega), nI_clp (show 110 + 5 * r + 3 < 2 ^ 31 by omega), ltv, gx1, gx1, ltv, e5, p1c, z1c]
theorem lRuleX (hI : InvC D i o C) (hN : NetR D i o (C.2 14)) (h8 : D 0 0 ≤ 8) (hlt : D 0 1 < 20) {kd a b c : Nat} (hk : kd ≤ 2) (ha : a < D 0 0) (hb : b < D 0 0) (hc : c < D 0 0) (hbad : ¬ badR kd a b c) {X : St} (hAX : Alk X C) (x14 : X.2 14 = C.2 14) (x15 : NetR (ruD D kd a b (thr kd a c)) i o (X.2 15)) : ∃ C', pL_isRule_100 X (nI kd) (nI a) (nI b) (nI c) 0 = some (1, C') ∧ JX (D 0 0) C' := by
  have w := hI.1
  have ht : thr kd a c < D 0 0 := by unfold thr; split <;> assumption
  have hab : a ≠ b := fun q => hbad (Or.inl q)
  have w' := ru_wf w hlt hk ha hb ht (fun q => by unfold thr; rw [if_neg q]) hab (fun q => by
    unfold thr
    rw [if_pos q]
    exact ⟨fun r => hbad (Or.inr ⟨q, Or.inl r⟩), fun r => hbad (Or.inr ⟨q, Or.inr r⟩)⟩)
  have e00 : ruD D kd a b (thr kd a c) 0 0 = D 0 0 := ru_0 (by decide)
  have hi' : i < 2 ^ ruD D kd a b (thr kd a c) 0 0 := by rw [e00]; exact hI.2.1.1
  have ho' : o < 2 ^ ruD D kd a b (thr kd a c) 0 0 := by rw [e00]; exact hI.2.1.2
  obtain ⟨b0, b1, b2⟩ := lPoss (C := nx X) w' hi' ho' x15
  have x141 : X.2 14 (1 : Int32).toNatClampNeg = nI (D 0 1) := by rw [x14]; exact hN.1.2.1
  rw [l100_n (show ¬ X.2 14 (1 : Int32).toNatClampNeg = 20 from fun q => absurd ((nI_eq (b := 20) (by omega) (by decide)).mp (x141.symm.trans q)) (by omega)) b1, x141]
  cases b0 with
  | false =>
    rw [if_pos (show b2i false = 0 from rfl), l144n (by decide)]
    rcases oRuOk (hI.alk hAX) hlt hk ha hb hc hbad with ⟨C', c1, c2⟩ | ⟨_, C', c1, c2⟩
    · exact absurd (b2.mpr c2.2.2.1) (by decide)
    · rw [l171ok hk (x8 := (-900004)) (wW_e c1 (by decide))]
      exact ⟨_, rfl, JN.back c2 (by rw [x14]; exact hN) h8 (Nat.le_refl _)⟩
  | true =>
    rw [if_neg (show ¬ b2i true = 0 by decide), l144 (by omega)]
    have hAS : Alk (stk X 250) C := stk_alk hAX
    rcases oRuOk (hI.alk hAS) hlt hk ha hb hc hbad with ⟨C', c1, c2⟩ | ⟨c0, _⟩
    · rw [l171ok hk (x8 := nI (D 0 1)) (wW_r c1)]
      refine ⟨_, rfl, JN.back c2 (x15.cong ?_ ?_ fun j hj => stk_14 hj) (by rw [e00]; exact h8) (Nat.le_of_eq (by rw [e00]))⟩
      · rw [e00]; omega
      · exact w'.r
    · exact absurd (b2.mp rfl) c0
theorem lRuleD (hJ : JN D i o C) {kd a b c : Nat} (hk : kd ≤ 2) (ha : a < D 0 0) (hb : b < D 0 0) (hc : c < D 0 0) : ∃ C', pL_isRule C (nI kd) (nI a) (nI b) (nI c) = some (1, C') ∧ JX (D 0 0) C' := by
  obtain ⟨hI, hN, h8⟩ := hJ
  have w := hI.1
  have r20 := w.r
  have e1 : C.2 14 1 = nI (D 0 1) := hN.1.2.1
  have hA : Alk (cp C) C := Alk.rf.cp
  rw [lBad hk w ha hb hc]
  by_cases hbad : badR kd a b c
  · rw [if_pos hbad, l29_1, l100_1, l144n (by decide), l171ok hk (x8 := (-900002)) (wW_e (oRuBad w (hI.alk hA).2.2.2 hk ha hb hc hbad) (by decide))]
    exact ⟨_, rfl, JN.back (hI.alk hA) hN h8 (Nat.le_refl _)⟩
  · rw [if_neg hbad]
    by_cases h20 : D 0 1 = 20
    · have e20 : C.2 14 1 = 20 := by rw [e1, h20]; rfl
      rw [l29_20 (show (20 : Int32) ≤ C.2 14 1 by rw [e20]; decide), l100_20 (show (cp C).2 14 (1 : Int32).toNatClampNeg = 20 from e20), l144n (by decide), l171ok hk (x8 := (-900003)) (wW_e (oRuFull (hI.alk hA) h20 hk ha hb hc hbad) (by decide))]
      exact ⟨_, rfl, JN.back (hI.alk hA) hN h8 (Nat.le_refl _)⟩
    · have hlt : D 0 1 < 20 := by omega
      rw [l29_n e1 hlt]
      have hR := hN.rul hlt (by omega) (kd := kd) (a := a) (b := b) (c := thr kd a c) (c' := nI c) (fun q => by unfold thr; rw [if_pos q])
      generalize hX : sA (sA (sA (sA (sA (cp C) 15 (110 + 5 * D 0 1) (nI kd)) 15 (110 + 5 * D 0 1 + 1) (nI a)) 15 (110 + 5 * D 0 1 + 2) (nI b)) 15 (110 + 5 * D 0 1 + 3) (nI c)) 15 1 (nI (D 0 1 + 1)) = X
      have hAX : Alk X C := by rw [← hX]; exact Alk.rf.cp.a15.a15.a15.a15.a15
      have x14 : X.2 14 = C.2 14 := by rw [← hX]; rfl
      have x15 : NetR (ruD D kd a b (thr kd a c)) i o (X.2 15) := by
        rw [← hX, s15, s15, s15, s15, s15, cp15]
        exact hR
      exact lRuleX hI hN h8 hlt hk ha hb hc hbad hAX x14 x15
end LRuleC
