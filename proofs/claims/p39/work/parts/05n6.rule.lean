section AddR2
variable {D : Dt} {i o : Nat} {C M : St}
theorem kch_c (kd : Nat) : vp_nar .char (kch kd) = kch kd := by
  unfold kch
  split
  · rfl
  · split <;> rfl
theorem aAddsC (hI : InvD D i o C M) {kd a b c : Nat} (hk : kd ≤ 2) (ha : a < D 0 0) (hb : b < D 0 0) (hc : c < D 0 0) (h1 : kd ≠ 2 → c = a) (h2 : a ≠ b) (h3 : kd = 2 → a ≠ c ∧ b ≠ c) (x y z : Int32) (hx : x = nI (if kd = 0 then 2 ^ b else if kd = 1 then 0 else 2 ^ a ||| 2 ^ b ||| 2 ^ c)) (hy : y = nI (if kd = 0 then 2 ^ a else if kd = 1 then 2 ^ a ||| 2 ^ b else 0)) (hz : z = nI (if kd = 2 then max a (max b c) else max a b)) : Agr cdD (pX6_addRule C x y z) (pX7_adds_66 M (kch kd) (nI a) (nI b) (nI c)) := by
  have hI0 := hI
  obtain ⟨w, ⟨hi, ho⟩, hex, hC, hM⟩ := hI
  obtain ⟨n1, n2, n3, n4⟩ := w.1
  have t1 := hM.thr 0
  have e12 : ((sS M 7 0).1 1 = 20) ↔ ¬ D 0 1 < 20 := by
    rw [t1.r]
    exact (nI_eq (b := 20) (by omega) (by decide)).trans (by omega)
  unfold pX7_adds_66 pX7_adds_67 pX6_addRule
  rw [bd_t (mT0 M 2), if_pos rfl, hC.r]
  by_cases hn : D 0 1 < 20
  · rw [if_pos (show nI (D 0 1) < 20 from nltI (b := 20) (by omega) (by decide) hn), if_neg (show ¬ (sS M 7 0).1 1 = 20 from fun q => (e12.mp q) hn)]
    unfold pX7_adds_89
    rw [bd_t (mT0 _ 3), if_pos rfl]
    have t2 := t1.thr 0
    generalize sS (sS M 7 0) 7 0 = N at t2 ⊢
    have m0 : N.1 1 = nI (D 0 1) := t2.r
    have m1 : ∀ (u : Nat) (p : Int32), (sA N u (D 0 1) p).1 1 = nI (D 0 1) := fun _ _ => t2.r
    have m2 : ∀ (u v : Nat) (p q : Int32), (sA (sA N u (D 0 1) p) v (D 0 1) q).1 1 = nI (D 0 1) := fun _ _ _ _ => t2.r
    have m3 : ∀ (u v s : Nat) (p q r : Int32), (sA (sA (sA N u (D 0 1) p) v (D 0 1) q) s (D 0 1) r).1 1 = nI (D 0 1) := fun _ _ _ _ _ _ => t2.r
    have m4 : ∀ (u v s k : Nat) (p q r l : Int32), (sA (sA (sA (sA N u (D 0 1) p) v (D 0 1) q) s (D 0 1) r) k (D 0 1) l).1 1 = nI (D 0 1) := fun _ _ _ _ _ _ _ _ => t2.r
    have m5 : ∀ (u v s k j : Nat) (p q r l t : Int32), (sA (sA (sA (sA (sA N u (D 0 1) p) v (D 0 1) q) s (D 0 1) r) k (D 0 1) l) j (D 0 1) t).1 1 = nI (D 0 1) := fun _ _ _ _ _ _ _ _ _ _ => t2.r
    have c3 : ∀ (u v s : Nat) (p q r : Int32), (sA (sA (sA C u (D 0 1) p) v (D 0 1) q) s (D 0 1) r).1 4 = nI (forceM D) := fun _ _ _ _ _ _ => hC.fo
    have c4 : ∀ (u v s : Nat) (p q r t : Int32), (sS (sA (sA (sA C u (D 0 1) p) v (D 0 1) q) s (D 0 1) r) 4 t).1 5 = nI (D 0 1) := fun _ _ _ _ _ _ _ => by rw [sS_ne (by decide)]; exact hC.r
    have nar : vp_nar .boolean 0 = 0 := by decide
    unfold pX3_append
    simp only [ltv, hC.r, m0, m1, m2, m3, m4, m5, c3, c4, gd_ix hn, nI_clp (show D 0 1 < 2 ^ 31 by omega), kch_c, nar, nI_sh (D 0 1) (show D 0 1 < 31 by omega), nI_lor, nI_1]
    have w' := ru_wf w hn hk ha hb hc h1 h2 h3
    have hR := ru_RelC hC x y z hx hy hz
    have hQ := ru_RelM t2 (kd := kd) (a := a) (b := b) (c := c)
    have e00 : ruD D kd a b c 0 0 = D 0 0 := ru_0 (by decide)
    have hi' : i < 2 ^ ruD D kd a b c 0 0 := by rw [e00]; exact hi
    have ho' : o < 2 ^ ruD D kd a b c 0 0 := by rw [e00]; exact ho
    obtain ⟨v, v1, v2⟩ := cHasCmpl hR w' hi' ho'
    obtain ⟨d, d1, d2⟩ := mNoneLeft hQ w' (p12 hi' (by rw [e00]; exact n2)) (p12 ho' (by rw [e00]; exact n2))
    have cd : d = !v := by
      cases v with
      | true => exact d2.mpr (v2.mp rfl)
      | false =>
        cases q : d with
        | true => rfl
        | false => exact absurd (v2.mpr (d2.mp q)) (by decide)
    rw [bd_t rfl, bd_t v1, bd_t d1, cd, bd_t (mThr _ (!v) 4)]
    cases v with
    | false =>
      rw [if_pos (show b2i false = 0 from rfl), if_neg (show ¬ b2i (!false) = 0 by decide)]
      have hB := ru_backC hC x y z (nI (forceM D)) (nI (D 0 1)) rfl rfl (nI (forceM D ||| 2 ^ D 0 1)) (nI (D 0 1 + 1))
      have hU := ru_backM (hQ.thr 4)
      have s1 : nI (D 0 1 + 1) - 1 = nI (D 0 1) := (pk_sub (a := D 0 1 + 1) (b := 1) (by omega)).trans (by rw [Nat.add_sub_cancel])
      have hf : (forceM D).testBit (D 0 1) = false := tb_lt (forceM_lt D) (Nat.le_refl _)
      unfold pX3_dropLast pX7_adds_181
      simp only [ltv, sS_eq]
      have g5 : ∀ (T : St) (p q : Int32), (sS (sS T 4 p) 5 q).1 4 = p := fun T p q => by rw [sS_ne (by decide), sS_eq]
      have g4 : ∀ (T : St) (p q r : Int32), (sS (sS (sS T 4 p) 5 q) 5 r).1 4 = p := fun T p q r => by rw [sS_ne (by decide), sS_ne (by decide), sS_eq]
      have g7 : ∀ (T : St) (p q : Int32), (sS (sS T 1 p) 7 q).1 1 = p := fun T p q => by rw [sS_ne (by decide), sS_eq]
      simp only [g4, g7, s1, nI_sh (D 0 1) (show D 0 1 < 31 by omega), nI_adn, adn_undo hf]
      rw [bd_t rfl]
      exact ⟨_, _, _, rfl, ⟨D, i, o, w, ⟨hi, ho⟩, hex, hB, hU⟩, Or.inl ⟨4, rfl, by decide, by rw [sS_ne (by decide)]; exact sS_eq⟩⟩
    | true =>
      rw [if_neg (show ¬ b2i true = 0 by decide), if_pos (show b2i (!true) = 0 from rfl)]
      unfold pX7_adds_181
      have g7 : ∀ (T : St) (p q : Int32), (sS (sS T 1 p) 7 q).1 1 = p := fun T p q => by rw [sS_ne (by decide), sS_eq]
      have s1 : nI (D 0 1 + 1) - 1 = nI (D 0 1) := (pk_sub (a := D 0 1 + 1) (b := 1) (by omega)).trans (by rw [Nat.add_sub_cancel])
      rw [g7, s1]
      exact ⟨_, _, _, rfl, ⟨_, i, o, w', ⟨hi', ho'⟩, v2.mp rfl, hR, hQ.thr 0⟩, Or.inr ⟨rfl, sS_eq⟩⟩
  · rw [if_neg (show ¬ nI (D 0 1) < 20 from nltN (b := 20) (by omega) (by decide) (by omega)), if_pos (show (sS M 7 0).1 1 = 20 from e12.mpr hn)]
    unfold pX7_adds_89
    rw [bd_t (mT1 _ 3), if_neg (show ¬ (1 : Int32) = 0 by decide)]
    exact ⟨_, _, _, rfl, (hI0.m (t1.thr 3)).inv, Or.inl ⟨3, rfl, by decide, sS_eq⟩⟩
/-- the model's throwing of the first two kinds -/
theorem mAdds1 (M : St) (k x y z : Int32) : pX7_adds_26 M k x y z = some (0, sS M 7 1) := by
  unfold pX7_adds_26 pX7_adds_31
  rw [bd_t (mT1 M 1), if_neg (show ¬ (1 : Int32) = 0 by decide)]
theorem mAdds2 (M : St) (k x y z : Int32) : pX7_adds_62 M k x y z = some (0, sS M 7 2) := by
  unfold pX7_adds_62 pX7_adds_67
  rw [bd_t (mT1 M 2), if_neg (show ¬ (1 : Int32) = 0 by decide)]
theorem maxI {a b : Nat} (ha : a < 2 ^ 31) (hb : b < 2 ^ 31) : (if nI a < nI b then nI b else nI a) = nI (max a b) := by
  by_cases h : a < b
  · rw [if_pos (nltI ha hb h), Nat.max_eq_right (by omega)]
  · rw [if_neg (nltN ha hb (by omega)), Nat.max_eq_left (by omega)]
theorem tbE {α : Type} {r : Option ((Nat × St) ⊕ (Int32 × St))} {rc : Option ((Nat × St) ⊕ (Int32 × St))} {cd : Nat → Nat} {rm : Option (Int32 × St)} (h : Agr cd r rm) (hr : rc = tb r (fun e => e) (fun u => some (.inr (u.1, u.2)))) : Agr cd rc (bd rm (fun u => some (u.1, u.2))) := by
  subst hr
  obtain ⟨b, M', C', h1, h2, h3⟩ := h
  rw [bd_t h1]
  refine ⟨b, M', C', rfl, h2, ?_⟩
  rcases h3 with ⟨k, q1, q2, q3⟩ | ⟨q1, q2⟩
  · exact Or.inl ⟨k, by rw [tb_e q1], q2, q3⟩
  · exact Or.inr ⟨by rw [tb_t q1], q2⟩
theorem aRule2 (hI : InvD D i o C M) (kd : Nat) (hk : kd ≤ 1) (x y : Int32) (p q : Int32) (hp : ∀ a b, a < 12 → b < 12 → x = nI a → y = nI b → p = nI (if kd = 0 then 2 ^ b else 0) ∧ q = nI (if kd = 0 then 2 ^ a else 2 ^ a ||| 2 ^ b)) : Agr cdD (tb (pX6_checkFeature C x) (fun e => (e, C)) (fun r_1 =>
  tb (pX6_checkFeature C y) (fun e => (e, C)) (fun r_2 =>
  tb (pX6_checkDifferent C x y) (fun e => (e, C)) (fun r_3 =>
  tb (pX6_addRule C p q (if x < y then y else x)) (fun e => e) (fun u_4 =>
  some (.inr (u_4.1, u_4.2))))))) (bd (pX7_adds M (kch kd) x y x) (fun u => some (u.1, u.2))) := by
  have hI0 := hI
  obtain ⟨w, ⟨hi, ho⟩, hex, hC, hM⟩ := hI
  obtain ⟨n1, n2⟩ := w.n
  have hk2 : ¬ kch kd = 97 := by
    rcases (show kd = 0 ∨ kd = 1 by omega) with h | h <;> rw [h] <;> decide
  unfold pX7_adds
  rcases feat w x with ⟨a, ha, rfl, f1, f2⟩ | ⟨f1, f2⟩
  · rw [tb_t (f1 C i o hC), bd_t (f2 M i o hM), if_pos rfl]
    rcases feat w y with ⟨b, hb, rfl, g1, g2⟩ | ⟨g1, g2⟩
    · rw [tb_t (g1 C i o hC), bd_t (g2 M i o hM), if_pos rfl, bd_t (f2 M i o hM), if_pos rfl]
      unfold pX7_adds_31 pX6_checkDifferent
      rw [bd_t (mT0 M 1), if_pos rfl]
      obtain ⟨p1, p2⟩ := hp a b (by omega) (by omega) rfl rfl
      by_cases hab : a = b
      · rw [if_pos (show nI a = nI b by rw [hab]), if_pos (show nI a = nI b by rw [hab]), mAdds2, tb_e rfl, bd_t rfl]
        exact ⟨_, _, _, rfl, (hI0.m ((hM.thr 0).thr 2)).inv, Or.inl ⟨2, rfl, by decide, sS_eq⟩⟩
      · have hne : ¬ nI a = nI b := fun h => hab ((nI_eq (by omega) (by omega)).mp h)
        rw [if_neg hne, if_neg hne, if_neg hk2, tb_t rfl]
        have := aAddsC (hI0.m (hM.thr 0)) (kd := kd) (a := a) (b := b) (c := a) (by omega) ha hb ha (fun _ => rfl) hab (fun h => by omega) p q (if nI a < nI b then nI b else nI a)
          (by rw [p1]; congr 1; rcases (show kd = 0 ∨ kd = 1 by omega) with h | h <;> rw [h] <;> rfl)
          (by rw [p2]; congr 1; rcases (show kd = 0 ∨ kd = 1 by omega) with h | h <;> rw [h] <;> rfl)
          (by rw [maxI (by omega) (by omega), if_neg (by omega)])
        exact tbE (α := Nat) this rfl
    · rw [tb_e (g1 C i o hC), bd_t (g2 M i o hM), if_neg (show ¬ (1 : Int32) = 0 by decide), mAdds1, bd_t rfl]
      exact ⟨_, _, _, rfl, (hI0.m (hM.thr 1)).inv, Or.inl ⟨1, rfl, by decide, sS_eq⟩⟩
  · rw [tb_e (f1 C i o hC), bd_t (f2 M i o hM), if_neg (show ¬ (1 : Int32) = 0 by decide), mAdds1, bd_t rfl]
    exact ⟨_, _, _, rfl, (hI0.m (hM.thr 1)).inv, Or.inl ⟨1, rfl, by decide, sS_eq⟩⟩
theorem aRequire (hI : InvD D i o C M) (x y : Int32) : Agr cdD (pX6_require C x y) (pX7_require M x y) :=
  aRule2 hI 0 (by decide) x y _ _ (fun a b ha hb h1 h2 => by
    rw [h1, h2, nI_sh a (by omega), nI_sh b (by omega)]; exact ⟨rfl, rfl⟩)
theorem aExclude (hI : InvD D i o C M) (x y : Int32) : Agr cdD (pX6_exclude C x y) (pX7_exclude M x y) :=
  aRule2 hI 1 (by decide) x y _ _ (fun a b ha hb h1 h2 => by
    rw [h1, h2, nI_sh a (by omega), nI_sh b (by omega), nI_lor]; exact ⟨rfl, rfl⟩)
theorem aAny (hI : InvD D i o C M) (x y z : Int32) : Agr cdD (pX6_any C x y z) (pX7_any M x y z) := by
  have hI0 := hI
  obtain ⟨w, ⟨hi, ho⟩, hex, hC, hM⟩ := hI
  obtain ⟨n1, n2⟩ := w.n
  unfold pX6_any pX7_any pX7_adds
  rcases feat w x with ⟨a, ha, rfl, f1, f2⟩ | ⟨f1, f2⟩
  · rw [tb_t (f1 C i o hC), bd_t (f2 M i o hM), if_pos rfl]
    rcases feat w y with ⟨b, hb, rfl, g1, g2⟩ | ⟨g1, g2⟩
    · rw [tb_t (g1 C i o hC), bd_t (g2 M i o hM), if_pos rfl]
      rcases feat w z with ⟨c, hc, rfl, h1, h2⟩ | ⟨h1, h2⟩
      · rw [tb_t (h1 C i o hC), bd_t (h2 M i o hM), if_pos rfl]
        unfold pX7_adds_31 pX6_checkDifferent
        rw [bd_t (mT0 M 1), if_pos rfl, if_pos (show (97 : Int32) = 97 from rfl)]
        have ne : ∀ {u v : Nat}, u < D 0 0 → v < D 0 0 → u ≠ v → ¬ nI u = nI v := fun hu hv hne h => hne ((nI_eq (by omega) (by omega)).mp h)
        have two : ∀ r : Option ((Nat × St) ⊕ (Int32 × St)), r = some (.inl (2, C)) → Agr cdD r (bd (some ((0 : Int32), sS (sS M 7 0) 7 2)) (fun u => some (u.1, u.2))) := fun r hr => by
          rw [bd_t rfl]
          exact ⟨_, _, _, rfl, (hI0.m ((hM.thr 0).thr 2)).inv, Or.inl ⟨2, hr, by decide, sS_eq⟩⟩
        by_cases hab : a = b
        · rw [if_pos (show nI a = nI b by rw [hab]), if_pos (show nI a = nI b by rw [hab]), mAdds2, tb_e rfl]
          exact two _ rfl
        · rw [if_neg (ne ha hb hab), if_neg (ne ha hb hab), tb_t rfl]
          by_cases hac : a = c
          · rw [if_pos (show nI a = nI c by rw [hac]), if_pos (show nI a = nI c by rw [hac]), mAdds2, tb_e rfl]
            exact two _ rfl
          · rw [if_neg (ne ha hc hac), if_neg (ne ha hc hac), tb_t rfl]
            by_cases hbc : b = c
            · rw [if_pos (show nI b = nI c by rw [hbc]), if_pos (show nI b = nI c by rw [hbc]), mAdds2, tb_e rfl]
              exact two _ rfl
            · rw [if_neg (ne hb hc hbc), if_neg (ne hb hc hbc), tb_t rfl]
              have := aAddsC (hI0.m (hM.thr 0)) (kd := 2) (a := a) (b := b) (c := c) (by decide) ha hb hc (fun h => absurd rfl h) hab (fun _ => ⟨hac, hbc⟩) (((1 : Int32) <<< (nI a &&& 31)) ||| ((1 : Int32) <<< (nI b &&& 31)) ||| ((1 : Int32) <<< (nI c &&& 31))) 0 (if nI a < (if nI b < nI c then nI c else nI b) then (if nI b < nI c then nI c else nI b) else nI a)
                (by rw [nI_sh a (by omega), nI_sh b (by omega), nI_sh c (by omega), nI_lor, nI_lor]; rfl)
                rfl
                (by rw [maxI (a := b) (b := c) (by omega) (by omega), maxI (by omega) (by omega)]; rfl)
              exact tbE (α := Nat) this rfl
      · rw [tb_e (h1 C i o hC), bd_t (h2 M i o hM), if_neg (show ¬ (1 : Int32) = 0 by decide), mAdds1, bd_t rfl]
        exact ⟨_, _, _, rfl, (hI0.m (hM.thr 1)).inv, Or.inl ⟨1, rfl, by decide, sS_eq⟩⟩
    · rw [tb_e (g1 C i o hC), bd_t (g2 M i o hM), if_neg (show ¬ (1 : Int32) = 0 by decide), mAdds1, bd_t rfl]
      exact ⟨_, _, _, rfl, (hI0.m (hM.thr 1)).inv, Or.inl ⟨1, rfl, by decide, sS_eq⟩⟩
  · rw [tb_e (f1 C i o hC), bd_t (f2 M i o hM), if_neg (show ¬ (1 : Int32) = 0 by decide), mAdds1, bd_t rfl]
    exact ⟨_, _, _, rfl, (hI0.m (hM.thr 1)).inv, Or.inl ⟨1, rfl, by decide, sS_eq⟩⟩
end AddR2
