/-! ===== p39: the law's row when something is written ===== -/
section LNets
variable {D : Dt} {i o : Nat} {n : Nat → Int32}
theorem up_ne {f : Nat → Int32} {k j : Nat} {v : Int32} (h : j ≠ k) : upd f k v j = f j := pk_un h
theorem up_eq {f : Nat → Int32} {k : Nat} {v : Int32} : upd f k v k = v := pk_us
theorem NetR.setI (h : NetR D i o n) (i' : Nat) : NetR D i' o (upd n 3 (nI i')) := by
  obtain ⟨⟨a0, a1, a3, a4⟩, ⟨b1, b2, b3, b4⟩, c, d⟩ := h
  refine ⟨⟨?_, ?_, ?_, ?_⟩, ⟨fun f h1 h2 => ?_, fun f h1 => ?_, fun f h1 => ?_, fun f h1 => ?_⟩, fun r hr => ?_, fun r h1 h2 => ?_⟩
  · rw [up_ne (by decide)]; exact a0
  · rw [up_ne (by decide)]; exact a1
  · rw [up_eq]
  · rw [up_ne (by decide)]; exact a4
  · rw [up_ne (by omega)]; exact b1 f h1 h2
  · rw [up_ne (by omega)]; exact b2 f h1
  · rw [up_ne (by omega)]; exact b3 f h1
  · rw [up_ne (by omega)]; exact b4 f h1
  · rw [up_ne (by omega), up_ne (by omega), up_ne (by omega), up_ne (by omega), up_ne (by omega)]; exact c r hr
  · rw [up_ne (by omega)]; exact d r h1 h2
theorem NetR.setO (h : NetR D i o n) (o' : Nat) : NetR D i o' (upd n 4 (nI o')) := by
  obtain ⟨⟨a0, a1, a3, a4⟩, ⟨b1, b2, b3, b4⟩, c, d⟩ := h
  refine ⟨⟨?_, ?_, ?_, ?_⟩, ⟨fun f h1 h2 => ?_, fun f h1 => ?_, fun f h1 => ?_, fun f h1 => ?_⟩, fun r hr => ?_, fun r h1 h2 => ?_⟩
  · rw [up_ne (by decide)]; exact a0
  · rw [up_ne (by decide)]; exact a1
  · rw [up_ne (by decide)]; exact a3
  · rw [up_eq]
  · rw [up_ne (by omega)]; exact b1 f h1 h2
  · rw [up_ne (by omega)]; exact b2 f h1
  · rw [up_ne (by omega)]; exact b3 f h1
  · rw [up_ne (by omega)]; exact b4 f h1
  · rw [up_ne (by omega), up_ne (by omega), up_ne (by omega), up_ne (by omega), up_ne (by omega)]; exact c r hr
  · rw [up_ne (by omega)]; exact d r h1 h2
theorem NetR.grp (h : NetR D i o n) (hd : D 0 0 ≤ 12) {f lo up : Nat} (hf : f < 12) : NetR (grD D f lo up) i o (upd (upd n (50 + f) (nI lo)) (70 + f) (nI up)) := by
  have g0 : grD D f lo up 0 = D 0 := gr_row (by decide) (by decide)
  obtain ⟨⟨a0, a1, a3, a4⟩, ⟨b1, b2, b3, b4⟩, c, d⟩ := h
  refine ⟨⟨?_, ?_, ?_, ?_⟩, ⟨?_, fun g h1 => ?_, ?_, fun g h1 => ?_⟩, ?_, ?_⟩
  · rw [g0, up_ne (by omega), up_ne (by omega)]; exact a0
  · rw [g0, up_ne (by omega), up_ne (by omega)]; exact a1
  · rw [up_ne (by omega), up_ne (by omega)]; exact a3
  · rw [up_ne (by omega), up_ne (by omega)]; exact a4
  · rw [g0, gr_row (x := 1) (by decide) (by decide)]
    intro g h1 h2
    rw [up_ne (by omega), up_ne (by omega)]; exact b1 g h1 h2
  · rw [up_ne (by omega), gr_2]
    by_cases z : g = f
    · rw [if_pos z, z, up_eq]
    · rw [if_neg z, up_ne (by omega)]; exact b2 g h1
  · rw [g0]
    intro g h1
    rw [gr_3]
    by_cases z : g = f
    · rw [if_pos z, z, up_eq]
    · rw [if_neg z, up_ne (by omega), up_ne (by omega)]; exact b3 g h1
  · rw [up_ne (by omega), up_ne (by omega), gr_row (x := 4) (by decide) (by decide)]; exact b4 g h1
  · rw [g0, gr_row (x := 5) (by decide) (by decide), gr_row (x := 6) (by decide) (by decide), gr_row (x := 7) (by decide) (by decide), gr_row (x := 8) (by decide) (by decide), gr_row (x := 9) (by decide) (by decide)]
    intro r hr
    rw [up_ne (by omega), up_ne (by omega), up_ne (by omega), up_ne (by omega), up_ne (by omega), up_ne (by omega), up_ne (by omega), up_ne (by omega), up_ne (by omega), up_ne (by omega)]
    exact c r hr
  · rw [g0]
    intro r h1 h2
    rw [up_ne (by omega), up_ne (by omega)]; exact d r h1 h2
theorem NetR.man (h : NetR D i o n) (hd : D 0 0 ≤ 12) {f v : Nat} (hf : f < 12) : NetR (seD D 4 f v) i o (upd n (90 + f) (nI v)) := by
  have g0 : seD D 4 f v 0 = D 0 := se_row (by decide)
  obtain ⟨⟨a0, a1, a3, a4⟩, ⟨b1, b2, b3, b4⟩, c, d⟩ := h
  refine ⟨⟨?_, ?_, ?_, ?_⟩, ⟨?_, fun g h1 => ?_, ?_, fun g h1 => ?_⟩, ?_, ?_⟩
  · rw [g0, up_ne (by omega)]; exact a0
  · rw [g0, up_ne (by omega)]; exact a1
  · rw [up_ne (by omega)]; exact a3
  · rw [up_ne (by omega)]; exact a4
  · rw [g0, se_row (x := 1) (by decide)]
    intro g h1 h2
    rw [up_ne (by omega)]; exact b1 g h1 h2
  · rw [up_ne (by omega), se_row (x := 2) (by decide)]; exact b2 g h1
  · rw [g0, se_row (x := 3) (by decide)]
    intro g h1
    rw [up_ne (by omega)]; exact b3 g h1
  · rw [se_at]
    by_cases z : g = f
    · rw [if_pos z, z, up_eq]
    · rw [if_neg z, up_ne (by omega)]; exact b4 g h1
  · rw [g0, se_row (x := 5) (by decide), se_row (x := 6) (by decide), se_row (x := 7) (by decide), se_row (x := 8) (by decide), se_row (x := 9) (by decide)]
    intro r hr
    rw [up_ne (by omega), up_ne (by omega), up_ne (by omega), up_ne (by omega), up_ne (by omega)]
    exact c r hr
  · rw [g0]
    intro r h1 h2
    rw [up_ne (by omega)]; exact d r h1 h2
theorem NetR.lif (h : NetR D i o n) (w : WF D) {r : Nat} (hr : r < D 0 1) : NetR (lfD D r) i o (upd n (114 + 5 * r) 1) := by
  have r20 := w.r
  have g0 : lfD D r 0 = D 0 := lf_row (by decide)
  obtain ⟨⟨a0, a1, a3, a4⟩, ⟨b1, b2, b3, b4⟩, c, d⟩ := h
  refine ⟨⟨?_, ?_, ?_, ?_⟩, ⟨?_, fun g h1 => ?_, ?_, fun g h1 => ?_⟩, ?_, ?_⟩
  · rw [g0, up_ne (by omega)]; exact a0
  · rw [g0, up_ne (by omega)]; exact a1
  · rw [up_ne (by omega)]; exact a3
  · rw [up_ne (by omega)]; exact a4
  · rw [g0, lf_row (x := 1) (by decide)]
    intro g h1 h2
    have := w.n.2
    rw [up_ne (by omega)]; exact b1 g h1 h2
  · rw [up_ne (by omega), lf_row (x := 2) (by decide)]; exact b2 g h1
  · rw [g0, lf_row (x := 3) (by decide)]
    intro g h1
    have := w.n.2
    rw [up_ne (by omega)]; exact b3 g h1
  · rw [up_ne (by omega), lf_row (x := 4) (by decide)]; exact b4 g h1
  · rw [g0, lf_row (x := 5) (by decide), lf_row (x := 6) (by decide), lf_row (x := 7) (by decide), lf_row (x := 8) (by decide)]
    intro k hk
    obtain ⟨c0, c1, c2, c3, c4⟩ := c k hk
    rw [up_ne (by omega), up_ne (by omega), up_ne (by omega), up_ne (by omega), lf_9]
    refine ⟨c0, c1, c2, c3, ?_⟩
    by_cases z : k = r
    · rw [if_pos z, z, show 110 + 5 * r + 4 = 114 + 5 * r by omega, up_eq]; rfl
    · rw [if_neg z, up_ne (by omega)]; exact c4
  · rw [g0]
    intro k h1 h2
    rw [up_ne (by omega)]; exact d k h1 h2
theorem NetR.fea (h : NetR D i o n) (w : WF D) (hn : D 0 0 < 12) {p v : Nat} (x : Int32) : NetR (afD D p v) i o (upd (upd (upd (upd n (10 + D 0 0) (nI p)) (30 + D 0 0) x) (70 + D 0 0) 12) 0 (nI (D 0 0 + 1))) := by
  have r20 := w.r
  obtain ⟨⟨a0, a1, a3, a4⟩, ⟨b1, b2, b3, b4⟩, c, d⟩ := h
  have ne : ∀ j, j ≠ 10 + D 0 0 → j ≠ 30 + D 0 0 → j ≠ 70 + D 0 0 → j ≠ 0 → (upd (upd (upd (upd n (10 + D 0 0) (nI p)) (30 + D 0 0) x) (70 + D 0 0) 12) 0 (nI (D 0 0 + 1))) j = n j := fun j q1 q2 q3 q4 => by
    rw [up_ne q4, up_ne q3, up_ne q2, up_ne q1]
  refine ⟨⟨?_, ?_, ?_, ?_⟩, ⟨?_, fun g h1 => ?_, ?_, fun g h1 => ?_⟩, ?_, ?_⟩
  · rw [up_eq, af_00]
  · rw [ne 1 (by omega) (by omega) (by omega) (by omega), af_0 (by decide)]; exact a1
  · rw [ne 3 (by omega) (by omega) (by omega) (by omega)]; exact a3
  · rw [ne 4 (by omega) (by omega) (by omega) (by omega)]; exact a4
  · rw [af_00]
    intro g h1 h2
    rw [af_1]
    by_cases z : g = D 0 0
    · rw [if_pos z, z, up_ne (by omega), up_ne (by omega), up_ne (by omega), up_eq]
    · rw [if_neg z, ne _ (by omega) (by omega) (by omega) (by omega)]; exact b1 g h1 (by omega)
  · rw [ne _ (by omega) (by omega) (by omega) (by omega), af_row (x := 2) (by decide) (by decide) (by decide) (by decide)]; exact b2 g h1
  · rw [af_00]
    intro g h1
    rw [af_3]
    by_cases z : g = D 0 0
    · rw [if_pos z, z, up_ne (by omega), up_eq]; rfl
    · rw [if_neg z, ne _ (by omega) (by omega) (by omega) (by omega)]; exact b3 g (by omega)
  · rw [ne _ (by omega) (by omega) (by omega) (by omega), af_row (x := 4) (by decide) (by decide) (by decide) (by decide)]; exact b4 g h1
  · rw [af_0 (by decide), af_row (x := 5) (by decide) (by decide) (by decide) (by decide), af_row (x := 6) (by decide) (by decide) (by decide) (by decide), af_row (x := 7) (by decide) (by decide) (by decide) (by decide), af_row (x := 8) (by decide) (by decide) (by decide) (by decide), af_row (x := 9) (by decide) (by decide) (by decide) (by decide)]
    intro r hr
    rw [ne (110 + 5 * r) (by omega) (by omega) (by omega) (by omega), ne (110 + 5 * r + 1) (by omega) (by omega) (by omega) (by omega), ne (110 + 5 * r + 2) (by omega) (by omega) (by omega) (by omega), ne (110 + 5 * r + 3) (by omega) (by omega) (by omega) (by omega), ne (110 + 5 * r + 4) (by omega) (by omega) (by omega) (by omega)]
    exact c r hr
  · rw [af_0 (by decide)]
    intro r h1 h2
    rw [ne _ (by omega) (by omega) (by omega) (by omega)]; exact d r h1 h2
theorem NetR.rul (h : NetR D i o n) (hr : D 0 1 < 20) (hd : D 0 0 ≤ 12) {kd a b c : Nat} {c' : Int32} (hc : kd = 2 → c' = nI c) : NetR (ruD D kd a b c) i o (upd (upd (upd (upd (upd n (110 + 5 * D 0 1) (nI kd)) (110 + 5 * D 0 1 + 1) (nI a)) (110 + 5 * D 0 1 + 2) (nI b)) (110 + 5 * D 0 1 + 3) c') 1 (nI (D 0 1 + 1))) := by
  obtain ⟨⟨a0, a1, a3, a4⟩, ⟨b1, b2, b3, b4⟩, c9, d⟩ := h
  have ne : ∀ j, (j < 110 ∨ 110 + 5 * D 0 1 + 3 < j ∨ j < 110 + 5 * D 0 1) → j ≠ 1 → (upd (upd (upd (upd (upd n (110 + 5 * D 0 1) (nI kd)) (110 + 5 * D 0 1 + 1) (nI a)) (110 + 5 * D 0 1 + 2) (nI b)) (110 + 5 * D 0 1 + 3) c') 1 (nI (D 0 1 + 1))) j = n j := fun j q1 q2 => by
    rw [up_ne q2, up_ne (by omega), up_ne (by omega), up_ne (by omega), up_ne (by omega)]
  have e00 : ruD D kd a b c 0 0 = D 0 0 := ru_0 (by decide)
  have row : ∀ x, x ≠ 0 → x < 5 → ruD D kd a b c x = D x := fun x h0 h5 => ru_row h0 (Or.inl h5)
  obtain ⟨n5, n6, n7, n8, n9⟩ := ru_new (D := D) (kd := kd) (a := a) (b := b) (c := c)
  refine ⟨⟨?_, ?_, ?_, ?_⟩, ⟨?_, fun g h1 => ?_, ?_, fun g h1 => ?_⟩, ?_, ?_⟩
  · rw [ne 0 (by omega) (by omega), e00]; exact a0
  · rw [up_eq, ru_01]
  · rw [ne 3 (by omega) (by omega)]; exact a3
  · rw [ne 4 (by omega) (by omega)]; exact a4
  · rw [e00, row 1 (by decide) (by decide)]
    intro g h1 h2
    rw [ne _ (by omega) (by omega)]; exact b1 g h1 h2
  · rw [ne _ (by omega) (by omega), row 2 (by decide) (by decide)]; exact b2 g h1
  · rw [e00, row 3 (by decide) (by decide)]
    intro g h1
    rw [ne _ (by omega) (by omega)]; exact b3 g h1
  · rw [ne _ (by omega) (by omega), row 4 (by decide) (by decide)]; exact b4 g h1
  · rw [ru_01]
    intro r hr2
    by_cases z : r = D 0 1
    · rw [z, n5, n6, n7, n8, n9]
      refine ⟨?_, ?_, ?_, fun q => ?_, ?_⟩
      · rw [up_ne (by omega), up_ne (by omega), up_ne (by omega), up_ne (by omega), up_eq]
      · rw [up_ne (by omega), up_ne (by omega), up_ne (by omega), up_eq]
      · rw [up_ne (by omega), up_ne (by omega), up_eq]
      · rw [up_ne (by omega), up_eq]; exact hc q
      · rw [ne _ (by omega) (by omega)]; exact d _ (Nat.le_refl _) hr
    · rw [ru_old (by decide) z, ru_old (by decide) z, ru_old (by decide) z, ru_old (by decide) z, ru_old (by decide) z, ne (110 + 5 * r) (by omega) (by omega), ne (110 + 5 * r + 1) (by omega) (by omega), ne (110 + 5 * r + 2) (by omega) (by omega), ne (110 + 5 * r + 3) (by omega) (by omega), ne (110 + 5 * r + 4) (by omega) (by omega)]
      exact c9 r (by omega)
  · rw [ru_01]
    intro r h1 h2
    rw [ne _ (by omega) (by omega)]; exact d r (by omega) h2
/-- rows alike in what is read of them -/
theorem NetR.cong {m : Nat → Int32} (h : NetR D i o n) (hd : D 0 0 ≤ 12) (hr : D 0 1 ≤ 20) (e : ∀ j, j < 250 → m j = n j) : NetR D i o m := by
  obtain ⟨⟨a0, a1, a3, a4⟩, ⟨b1, b2, b3, b4⟩, c, d⟩ := h
  refine ⟨⟨?_, ?_, ?_, ?_⟩, ⟨fun f h1 h2 => ?_, fun f h1 => ?_, fun f h1 => ?_, fun f h1 => ?_⟩, fun r hr => ?_, fun r h1 h2 => ?_⟩
  · rw [e 0 (by decide)]; exact a0
  · rw [e 1 (by decide)]; exact a1
  · rw [e 3 (by decide)]; exact a3
  · rw [e 4 (by decide)]; exact a4
  · rw [e _ (by omega)]; exact b1 f h1 h2
  · rw [e _ (by omega)]; exact b2 f h1
  · rw [e _ (by omega)]; exact b3 f h1
  · rw [e _ (by omega)]; exact b4 f h1
  · rw [e (110 + 5 * r) (by omega), e (110 + 5 * r + 1) (by omega), e (110 + 5 * r + 2) (by omega), e (110 + 5 * r + 3) (by omega), e (110 + 5 * r + 4) (by omega)]; exact c r hr
  · rw [e _ (by omega)]; exact d r h1 h2
end LNets
