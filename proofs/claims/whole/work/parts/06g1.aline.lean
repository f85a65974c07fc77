section ALine
variable {D : Dt} {i o : Nat} {C M : St}
/-- what the model's line asks -/
def LnH (M E : St) (K : Kn) (N : Nat) : Prop := pX7_deduces M = some E ∧ N ≤ 12 ∧ E.1 0 = nI N ∧ E.1 5 = nI K.1.1 ∧ E.1 6 = nI K.1.2 ∧ K.1.1 < 2 ^ 31 ∧ K.1.2 < 2 ^ 31 ∧ (∀ f, f < N → E.2 8 f = K.2.1 f) ∧ (∀ f, f < N → (K.2.1 f = 45 ↔ knK K f = false)) ∧ lat K
theorem mLnH (hM : RelM D i o M) (w : WF D) (hi : i < 2 ^ D 0 0) (ho : o < 2 ^ D 0 0) : ∃ E K, LnH M E K (D 0 0) ∧ Fin D (K0 i o) K ∧ RelM D i o E ∧ okK D K ∧ E.1 7 = M.1 7 := by
  obtain ⟨n1, n2⟩ := w.n
  obtain ⟨E, K, m1, m2, m3, m4, m5, m6⟩ := mDeduces hM w hi ho
  have q31 : ∀ {x : Nat}, x < 2 ^ D 0 0 → x < 2 ^ 31 := fun hx => Nat.lt_of_lt_of_le (p12 hx n2) (by decide)
  exact ⟨E, K, ⟨m1, n2, m3.n, m4.1.1, m4.1.2, q31 m5.1.1, q31 m5.1.2, m4.2.1, m5.2.2.1, lat_fin m2⟩, m2, m3, m5, m6⟩
theorem lnT_pos (K : Kn) {N : Nat} (h : 1 ≤ N) : 1 ≤ (lnT K N).length := by
  obtain ⟨k, rfl⟩ : ∃ k, N = k + 1 := ⟨N - 1, by omega⟩
  show 1 ≤ (lnT K k ++ lnF K k).length
  have : 1 ≤ (lnF K k).length := by
    unfold lnF
    rw [List.length_append, List.length_append, List.length_cons]; omega
  rw [List.length_append]; omega
theorem aLine (hI : InvD D i o C M) : ∃ E K C', LnH (sS M 7 0) E K (D 0 0) ∧ pX6_lineLength C = some (nI (lnT K (D 0 0)).length, C') ∧ Inv C' E := by
  have hI0 := hI
  obtain ⟨w, ⟨hi, ho⟩, hex, hC, hM⟩ := hI
  obtain ⟨E, K, e1, e2, e3, e4, e5⟩ := mLnH (hM.thr 0) w hi ho
  obtain ⟨C', K', c1, c2, c3, c4, c5, c6, c7⟩ := cLine hC w hi ho
  have e := Fin_uniq c2 e2
  subst e
  refine ⟨E, K', C', e1, ?_, ((hI0.c c4).m e3).inv⟩
  unfold pX6_lineLength
  rw [bd_t c1, c6]
theorem aLineAt (hI : InvD D i o C M) (x : Int32) : ∃ E K, LnH M E K (D 0 0) ∧ ∃ (b : Bool) (ch : Int32), pX7_isIn E x 0 (nI (lnT K (D 0 0)).length - 1) = some (b2i b) ∧ (b = true → ∃ j, j < (lnT K (D 0 0)).length ∧ x = nI j ∧ (lnT K (D 0 0))[j]? = some ch) ∧ ∃ C', Inv C' (sS E 7 (if b then 0 else 1)) ∧ pX6_lineAt C x = (if b then some (.inr (ch, C')) else some (.inl (1, C'))) := by
  have hI0 := hI
  obtain ⟨w, ⟨hi, ho⟩, hex, hC, hM⟩ := hI
  obtain ⟨n1, n2⟩ := w.n
  obtain ⟨E, K, e1, e2, e3, e4, e5⟩ := mLnH hM w hi ho
  obtain ⟨C', K', c1, c2, c3, c4, c5, c6, c7⟩ := cLine hC w hi ho
  have e := Fin_uniq c2 e2
  subst e
  have hl1 := lnT_pos K' n1
  have hl5 := lnT_len K' (D 0 0)
  have es : nI (lnT K' (D 0 0)).length - 1 = nI ((lnT K' (D 0 0)).length - 1) := pk_sub (a := (lnT K' (D 0 0)).length) (b := 1) hl1
  have I1 := fun v => ((hI0.c c4).m (e3.thr v)).inv
  rcases amt x ((lnT K' (D 0 0)).length - 1) (by omega) with ⟨c, hc, rfl, h1, h2, h3⟩ | ⟨h1, h2⟩
  · have hlt : c < (lnT K' (D 0 0)).length := by omega
    obtain ⟨ch, hch⟩ : ∃ ch, (lnT K' (D 0 0))[c]? = some ch := ⟨_, List.getElem?_eq_getElem hlt⟩
    refine ⟨E, K', e1, true, ch, by rw [es]; exact h1 E, fun _ => ⟨c, hlt, rfl, hch⟩, C', I1 0, ?_⟩
    unfold pX6_lineAt
    rw [bd_t c1, if_neg h2, c6, if_pos (nltI (by omega) (by omega) hlt)]
    have hx : C'.2 13 c = ch := c7 c ch hch
    simp only [gd_ix (show c < 64 by omega), nI_clp (show c < 2 ^ 31 by omega), hx]
    exact gd_t (lnT_ok c3 w _ (Nat.le_refl _) ch (List.mem_of_getElem? hch))
  · refine ⟨E, K', e1, false, 0, by rw [es]; exact h1 E, fun h => (by cases h), C', I1 1, ?_⟩
    unfold pX6_lineAt pX6_lineAt_19
    rw [bd_t c1]
    rcases h2 with h2 | ⟨h2, h3⟩
    · rw [if_pos h2]; rfl
    · rw [if_neg h2, c6, if_neg (fun q => h3 (by
        have a := ilt.mp q
        refine ile.mpr ?_
        rw [nI_toInt (by omega)] at a ⊢
        omega))]
      rfl
end ALine
