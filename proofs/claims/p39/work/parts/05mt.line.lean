/-! ===== the line ===== -/
def lnF (K : Kn) (f : Nat) : List Int32 := (if 0 < f then [32] else []) ++ ((if f < 10 then [] else [49]) ++ (nI (48 + f % 10) :: (if knK K f then [K.2.1 f, if K.1.1.testBit f then 43 else 45] else [63])))
def lnT (K : Kn) : Nat → List Int32
  | 0 => []
  | f + 1 => lnT K f ++ lnF K f
theorem lnF_len (K : Kn) (f : Nat) : (lnF K f).length ≤ 5 := by
  unfold lnF
  split <;> split <;> split <;> simp
theorem lnT_len (K : Kn) : ∀ f, (lnT K f).length ≤ 5 * f
  | 0 => Nat.le_refl 0
  | f + 1 => by
    have a := lnT_len K f
    have b := lnF_len K f
    show (lnT K f ++ lnF K f).length ≤ _
    rw [List.length_append]; omega
def TxC (t : List Int32) (C : St) : Prop := C.1 9 = nI t.length ∧ ∀ j x, t[j]? = some x → C.2 13 j = x
section LineC
variable {D : Dt} {i o : Nat} {C : St} {K : Kn}
theorem RepC.s (hr : RepC D K C) {v : Int32} : RepC D K (sS C 9 v) := by
  refine ⟨⟨?_, ?_⟩, hr.2⟩
  · rw [sS_ne (by decide)]; exact hr.1.1
  · rw [sS_ne (by decide)]; exact hr.1.2
theorem RepC.a (hr : RepC D K C) {x : Nat} {v : Int32} : RepC D K (sA C 13 x v) := by
  refine ⟨hr.1, fun f hf => ?_, fun f hf q => ?_⟩
  · rw [sA_ne (by decide)]; exact hr.2.1 f hf
  · rw [sA_ne (by decide)]; exact hr.2.2 f hf q
theorem nar_c {x : Int32} (h : okC x) : vp_nar .char x = x := by
  unfold vp_nar
  rw [okC_n h]
def LC (D : Dt) (i o : Nat) (K : Kn) (t : List Int32) (C : St) : Prop := RelC D i o C ∧ RepC D K C ∧ TxC t C
theorem cApp {t : List Int32} (h : LC D i o K t C) (ht : t.length < 64) {x : Int32} (hx : okC x) : ∃ C', pX1_append C x = some C' ∧ LC D i o K (t ++ [x]) C' := by
  obtain ⟨h1, h2, h3, h4⟩ := h
  unfold pX1_append
  have e9 : (sA C 13 t.length x).1 9 = nI t.length := h3
  rw [h3]
  simp only [if_neg (show ¬ (64 : Int32) ≤ nI t.length from nleN (a := 64) (by decide) (by omega) ht), gd_ix ht, ltv, nI_clp (show t.length < 2 ^ 31 by omega), nar_c hx, e9, nI_1]
  refine ⟨_, rfl, (h1.a (by decide)).s (by decide), h2.a.s, ?_, fun j y hj => ?_⟩
  · rw [sS_eq, List.length_append]; rfl
  · show (sA C 13 t.length x).2 13 j = y
    rw [sA_eq]
    rcases Nat.lt_trichotomy j t.length with q | q | q
    · rw [List.getElem?_append_left q] at hj
      rw [show upd (C.2 13) t.length x j = C.2 13 j from if_neg (by omega)]
      exact h4 j y hj
    · subst q
      rw [List.getElem?_append_right (Nat.le_refl _), Nat.sub_self] at hj
      injection hj with hj
      rw [← hj]; exact if_pos rfl
    · rw [List.getElem?_append_right (by omega)] at hj
      have : ([x] : List Int32)[j - t.length]? = none := List.getElem?_eq_none (by simp; omega)
      rw [this] at hj; cases hj
theorem dig_ok : ∀ f, f < 12 → (((48 + (nI f - nI f / 10 * 10)).toUInt32 % 65536).toInt32) = nI (48 + f % 10) ∧ okC (nI (48 + f % 10)) ∧ (10 ≤ f → (((48 + (nI f / 10)).toUInt32 % 65536).toInt32) = 49) := by decide +kernel
theorem cWrite (h : RelC D i o C) (hr : RepC D K C) (w : WF D) (hK : okK D K) : ∃ C', pX1_write C (nI (D 0 0)) = some C' ∧ LC D i o K (lnT K (D 0 0)) C' := by
  obtain ⟨n1, n2⟩ := w.n
  have q31 : ∀ {x : Nat}, x < 2 ^ D 0 0 → x < 2 ^ 31 := fun hx => Nat.lt_of_lt_of_le (p12 hx n2) (by decide)
  unfold pX1_write
  simp only [ltv]
  have key : ∀ N f (E : St), f ≤ D 0 0 → D 0 0 < f + N → LC D i o K (lnT K f) E → ∃ C', pX1_write_7 N E (nI (D 0 0)) (nI f) = some C' ∧ LC D i o K (lnT K (D 0 0)) C' := by
    intro N
    induction N with
    | zero => intro f E h1 h2; omega
    | succ N ih =>
      intro f E h1 h2 hE
      have e0 : pX1_write_7 (N + 1) E (nI (D 0 0)) (nI f) = pX1_write_7_b (pX1_write_7 N) E (nI (D 0 0)) (nI f) := rfl
      rw [e0]
      unfold pX1_write_7_b
      rcases Nat.lt_or_ge f (D 0 0) with q | q
      · have f12 : f < 12 := by omega
        obtain ⟨g1, g2, g3⟩ := dig_ok f f12
        have hl := lnT_len K f
        rw [if_neg (nleN (by omega) (by omega) q)]
        -- from the number's last digit on
        have t40 : ∀ (E : St) (t : List Int32), LC D i o K t E → t.length ≤ 5 * f + 2 → t ++ (nI (48 + f % 10) :: (if knK K f then [K.2.1 f, if K.1.1.testBit f then 43 else 45] else [63])) = lnT K (f + 1) → ∃ C', pX1_write_40 (pX1_write_7 N) E (nI (D 0 0)) (nI f) = some C' ∧ LC D i o K (lnT K (D 0 0)) C' := by
          intro E t hE ht he
          unfold pX1_write_40 pX1_write_89 pX1_write_101
          rw [g1]
          obtain ⟨E2, a1, a2⟩ := cApp hE (by omega) g2
          rw [bd_t a1, bd_t (cKnows a2.2.1 w hK q)]
          simp only [ltv, nI_1]
          cases hk : knK K f with
          | false =>
            rw [hk] at he
            rw [if_pos (show b2i false = 0 from rfl)]
            obtain ⟨E3, b1, b2⟩ := cApp a2 (by rw [List.length_append]; simp; omega) (x := 63) (by decide)
            rw [bd_t b1]
            refine ih (f + 1) E3 q (by omega) ?_
            rw [← he]
            rw [List.append_assoc] at b2
            exact b2
          | true =>
            rw [hk] at he
            rw [if_neg (show ¬ b2i true = 0 by decide)]
            obtain ⟨k1, k2⟩ := hK.2.2.2.1 f q
            have k3 : K.2.1 f ≠ 45 := fun z => by
              have := (hK.2.2.1 f q).mp z
              rw [hk] at this; cases this
            have e11 : E2.2 11 f = K.2.1 f := by
              rw [a2.2.1.2.1 f q]; unfold clL; rw [if_neg k3]
            simp only [gd_ix f12, nI_clp (show f < 2 ^ 31 by omega), e11]
            obtain ⟨E3, b1, b2⟩ := cApp a2 (by rw [List.length_append]; simp; omega) k1
            rw [bd_t b1, b2.2.1.1.1, bd_t (cHas E3 (q31 hK.1.1) (by omega))]
            have fin : ∀ x : Int32, okC x → x = (if K.1.1.testBit f then 43 else 45) → ∃ C', bd (pX1_append E3 x) (fun u_8 => pX1_write_7 N u_8 (nI (D 0 0)) (nI (f + 1))) = some C' ∧ LC D i o K (lnT K (D 0 0)) C' := fun x hx hx2 => by
              obtain ⟨E4, c1, c2⟩ := cApp b2 (by rw [List.length_append, List.length_append]; simp; omega) hx
              rw [bd_t c1]
              refine ih (f + 1) E4 q (by omega) ?_
              rw [← he]
              rw [List.append_assoc, List.append_assoc, hx2] at c2
              exact c2
            cases z : K.1.1.testBit f with
            | true => rw [if_neg (show ¬ b2i true = 0 by decide)]; exact fin 43 (by decide) (by rw [z]; rfl)
            | false => rw [if_pos (show b2i false = 0 from rfl)]; exact fin 45 (by decide) (by rw [z]; rfl)
        have t22 : ∀ (E : St) (t : List Int32), LC D i o K t E → t.length ≤ 5 * f + 1 → t ++ ((if f < 10 then [] else [49]) ++ (nI (48 + f % 10) :: (if knK K f then [K.2.1 f, if K.1.1.testBit f then 43 else 45] else [63]))) = lnT K (f + 1) → ∃ C', pX1_write_22 (pX1_write_7 N) E (nI (D 0 0)) (nI f) = some C' ∧ LC D i o K (lnT K (D 0 0)) C' := by
          intro E t hE ht he
          unfold pX1_write_22
          by_cases z : f < 10
          · rw [if_pos z] at he
            rw [if_pos (show nI f < 10 from nltI (b := 10) (by omega) (by decide) z)]
            exact t40 E t hE (by omega) he
          · rw [if_neg z] at he
            rw [if_neg (show ¬ nI f < 10 from nltN (b := 10) (by omega) (by decide) (by omega)), g3 (by omega)]
            obtain ⟨E2, a1, a2⟩ := cApp hE (by omega) (x := 49) (by decide)
            rw [bd_t a1]
            refine t40 E2 (t ++ [49]) a2 (by rw [List.length_append]; simp; omega) ?_
            rw [← he, List.append_assoc]
        have he : lnT K f ++ lnF K f = lnT K (f + 1) := rfl
        unfold lnF at he
        by_cases z : 0 < f
        · rw [if_pos z] at he
          rw [if_neg (show ¬ nI f ≤ 0 from nI_nle z (by omega))]
          obtain ⟨E2, a1, a2⟩ := cApp hE (by omega) (x := 32) (by decide)
          rw [bd_t a1]
          refine t22 E2 (lnT K f ++ [32]) a2 (by rw [List.length_append]; simp; omega) ?_
          rw [← he, List.append_assoc]
        · rw [if_neg z] at he
          have f0 : f = 0 := by omega
          rw [if_pos (show nI f ≤ 0 by rw [f0]; decide)]
          exact t22 E (lnT K f) hE (by omega) he
      · have : f = D 0 0 := by omega
        subst this
        rw [if_pos (nleI (by omega) (by omega) q)]
        exact ⟨E, rfl, hE⟩
  exact key FU 0 _ (Nat.zero_le _) (by unfold FU; omega) ⟨h.s (by decide), hr.s, sS_eq, fun j x hj => by cases hj⟩
theorem cLine (h : RelC D i o C) (w : WF D) (hi : i < 2 ^ D 0 0) (ho : o < 2 ^ D 0 0) : ∃ C' K', pX6_writeLine C = some C' ∧ Fin D (K0 i o) K' ∧ okK D K' ∧ LC D i o K' (lnT K' (D 0 0)) C' := by
  obtain ⟨C1, K', d1, d2, d3, d4, d5, d6⟩ := cDeduce h w hi ho
  obtain ⟨C2, e1, e2⟩ := cWrite d3 d4 w d5
  refine ⟨C2, K', ?_, d2, d5, e2⟩
  unfold pX6_writeLine
  rw [bd_t d1, d3.n, bd_t e1]
theorem lnF_ok (hK : okK D K) {f : Nat} (hf : f < D 0 0) (w : WF D) : ∀ x ∈ lnF K f, okC x := by
  have n2 := w.n.2
  have k1 := (hK.2.2.2.1 f hf).1
  have g2 := (dig_ok f (by omega)).2.1
  unfold lnF
  intro x hx
  rcases List.mem_append.mp hx with hx | hx
  · split at hx
    · rw [List.mem_singleton.mp hx]; decide
    · cases hx
  · rcases List.mem_append.mp hx with hx | hx
    · split at hx
      · cases hx
      · rw [List.mem_singleton.mp hx]; decide
    · rcases List.mem_cons.mp hx with hx | hx
      · rw [hx]; exact g2
      · split at hx
        · rcases List.mem_cons.mp hx with hx | hx
          · rw [hx]; exact k1
          · rw [List.mem_singleton.mp hx]; split <;> decide
        · rw [List.mem_singleton.mp hx]; decide
theorem lnT_ok (hK : okK D K) (w : WF D) : ∀ f, f ≤ D 0 0 → ∀ x ∈ lnT K f, okC x
  | 0, _, x, hx => by cases hx
  | f + 1, h, x, hx => by
    rcases List.mem_append.mp hx with hx | hx
    · exact lnT_ok hK w f (by omega) x hx
    · exact lnF_ok hK (by omega) w x hx
end LineC
