/-! ===== what is known holds in every completion ===== -/
def sndK (D : Dt) (i o : Nat) (K : Kn) : Prop := ∀ S, S < 2 ^ D 0 0 → cmpl D i o S = true → (∀ j, K.1.1.testBit j = true → S.testBit j = true) ∧ (∀ j, K.1.2.testBit j = true → S.testBit j = false)
section Sound
variable {D : Dt} {i o : Nat} {K : Kn}
theorem cmpl_sub {S : Nat} (h : cmpl D i o S = true) : (∀ j, i.testBit j = true → S.testBit j = true) ∧ (∀ j, o.testBit j = true → S.testBit j = false) := by
  obtain ⟨h1, h2, -⟩ := cmpl_iff.mp h
  rw [zero_all] at h1 h2
  constructor
  · intro j q
    have := h1 j
    rw [adn_tb, q] at this
    simpa using this
  · intro j q
    have := h2 j
    rw [Nat.testBit_and, q] at this
    simpa using this
theorem snd_0 : sndK D i o (K0 i o) := by
  intro S hS h
  obtain ⟨h1, h2⟩ := cmpl_sub h
  refine ⟨fun j q => ?_, h2⟩
  have q : (1 ||| i).testBit j = true := q
  rw [Nat.testBit_or, Bool.or_eq_true] at q
  rcases q with q | q
  · have : j = 0 := by
      rw [show (1 : Nat) = 2 ^ 0 from rfl, tb_pow] at q
      have := of_decide_eq_true q
      omega
    rw [this]; exact cmpl_odd h
  · exact h1 j q
theorem kids_mono {p X Y : Nat} (h : ∀ j, X.testBit j = true → Y.testBit j = true) : kids D p X ≤ kids D p Y := by
  unfold kids
  exact ct_mono fun c _ q => by
    rw [Bool.and_eq_true] at q ⊢
    exact ⟨q.1, h c q.2⟩
theorem ct_lt_of {p q : Nat → Bool} {g n : Nat} (h : ∀ k, k < n → p k = true → q k = true) (hg : g < n) (h1 : p g = false) (h2 : q g = true) : ct p n < ct q n := by
  have e : n = g + 1 + (n - (g + 1)) := by omega
  have a1 : ct p g ≤ ct q g := ct_mono fun k hk => h k (by omega)
  have a2 : ct (fun i => p (g + 1 + i)) (n - (g + 1)) ≤ ct (fun i => q (g + 1 + i)) (n - (g + 1)) := ct_mono fun k hk => h _ (by omega)
  have b1 := ct_add p (g + 1) (n - (g + 1))
  have b2 := ct_add q (g + 1) (n - (g + 1))
  have b3 := ct_s p g
  have b4 := ct_s q g
  rw [h1] at b3
  rw [h2] at b4
  rw [← e] at b1 b2
  simp only [if_true, Bool.false_eq_true, if_false] at b3 b4
  omega
theorem tree_snd (w : WF D) {S f : Nat} (hg : good D S = true) (hS : (∀ j, K.1.1.testBit j = true → S.testBit j = true) ∧ (∀ j, K.1.2.testBit j = true → S.testBit j = false)) (h0 : 1 ≤ f) (hf : f < D 0 0) (hu : knK K f = false) (ht : treeL D K.1.1 K.1.2 f ≠ 0) : S.testBit f = inL (treeL D K.1.1 K.1.2 f) := by
  obtain ⟨n1, n2⟩ := w.n
  obtain ⟨u1, u2⟩ := unk hu
  have tr : treeOk D S = true := by
    unfold good at hg; rw [Bool.and_eq_true] at hg; exact hg.1
  obtain ⟨t0, t1⟩ := treeOk_iff.mp tr
  have hp := w.p h0 hf
  have kf : kid D (D 1 f) f = true := kid_iff.mpr ⟨h0, hf, rfl⟩
  have ok : ∀ g, g < D 0 0 → S.testBit g = true → (g = 0 ∨ S.testBit (D 1 g) = true) ∧ (∀ c, c < 12 → kid D g c = true → D 4 c = 1 → S.testBit c = true) ∧ D 2 g ≤ kids D g S ∧ kids D g S ≤ D 3 g := fun g g1 g2 => okAt_iff.mp (t1 g g1 g2)
  have no : ∀ {x : Bool}, (x = true → False) → x = false := fun {x} h => by cases x; rfl; exact absurd rfl h
  have kle : ∀ p, kids D p S ≤ kno D p K.1.2 := fun p => by
    unfold kids kno
    exact ct_mono fun c _ q => by
      rw [Bool.and_eq_true] at q ⊢
      refine ⟨q.1, ?_⟩
      cases z : K.1.2.testBit c with
      | false => rfl
      | true => rw [hS.2 c z] at q; exact absurd q.2 (by decide)
  unfold treeL at ht ⊢
  split
  · rename_i a
    have : kids D f K.1.1 ≠ 0 := by omega
    have : ¬ ∀ k, k < 12 → (kid D f k && K.1.1.testBit k) = false := fun z => this (ct_eq0.mpr z)
    obtain ⟨c, hc⟩ := Classical.not_forall.mp this
    have hc2 : ¬ (kid D f c && K.1.1.testBit c) = false := fun z => hc fun _ => z
    have hc3 : kid D f c = true ∧ K.1.1.testBit c = true := by
      cases x : kid D f c <;> cases y : K.1.1.testBit c <;> simp_all
    obtain ⟨c1, c2, c3⟩ := kid_iff.mp hc3.1
    have := (ok c c2 (hS.1 c hc3.2)).1
    rw [c3] at this
    exact this.resolve_left (by omega)
  · rename_i a1
    rw [if_neg a1] at ht
    split
    · rename_i a
      refine no fun q => ?_
      have := (ok f hf q).1.resolve_left (by omega)
      rw [hS.2 _ a] at this; cases this
    · rename_i a2
      rw [if_neg a2] at ht
      split
      · rename_i a
        rw [Bool.and_eq_true, decide_eq_true_iff] at a
        exact (ok (D 1 f) (by omega) (hS.1 _ a.2)).2.1 f (by omega) kf a.1
      · rename_i a3
        rw [if_neg a3] at ht
        split
        · rename_i a
          refine no fun q => ?_
          unfold offK at a
          have a : allb (fun c => !(kid D f c && (decide (D 4 c = 1) && K.1.2.testBit c))) 12 = false := by
            cases z : allb (fun c => !(kid D f c && (decide (D 4 c = 1) && K.1.2.testBit c))) 12 with
            | false => rfl
            | true => rw [z] at a; cases a
          obtain ⟨c, c1, c2⟩ := allb_false.mp a
          have c3 : kid D f c = true ∧ D 4 c = 1 ∧ K.1.2.testBit c = true := by
            simpa using c2
          have := (ok f hf q).2.1 c c1 c3.1 c3.2.1
          rw [hS.2 c c3.2.2] at this; cases this
        · rename_i a4
          rw [if_neg a4] at ht
          split
          · rename_i a
            rw [Bool.and_eq_true, decide_eq_true_iff] at a
            refine no fun q => ?_
            have hle := (ok (D 1 f) (by omega) (hS.1 _ a.1)).2.2.2
            have hlt : kids D (D 1 f) K.1.1 < kids D (D 1 f) S := by
              unfold kids
              exact ct_lt_of (g := f) (fun c _ z => by
                rw [Bool.and_eq_true] at z ⊢
                exact ⟨z.1, hS.1 c z.2⟩) (by omega) (by rw [u1, Bool.and_false]) (by rw [kf, q]; rfl)
            omega
          · rename_i a5
            rw [if_neg a5] at ht
            split
            · rename_i a
              rw [Bool.and_eq_true, decide_eq_true_iff] at a
              have hge := (ok (D 1 f) (by omega) (hS.1 _ a.1)).2.2.1
              cases q : S.testBit f with
              | true => rfl
              | false =>
                exfalso
                have hlt : kids D (D 1 f) S < kno D (D 1 f) K.1.2 := by
                  unfold kids kno
                  exact ct_lt_of (g := f) (fun c _ z => by
                    rw [Bool.and_eq_true] at z ⊢
                    refine ⟨z.1, ?_⟩
                    cases y : K.1.2.testBit c with
                    | false => rfl
                    | true => rw [hS.2 c y] at z; exact absurd z.2 (by decide)) (by omega) (by rw [q, Bool.and_false]) (by rw [kf, u2]; rfl)
                omega
            · rename_i a6
              rw [if_neg a6] at ht
              split
              · rename_i a
                refine no fun q => ?_
                have hge := (ok f hf q).2.2.1
                have := kle f
                omega
              · rename_i a7
                rw [if_neg a7] at ht
                exact absurd rfl ht
theorem rule_snd (w : WF D) {S f r : Nat} (hg : good D S = true) (hS : (∀ j, K.1.1.testBit j = true → S.testBit j = true) ∧ (∀ j, K.1.2.testBit j = true → S.testBit j = false)) (hr : r < D 0 1) (ht : tellL D K.1.1 K.1.2 r f ≠ 0) : S.testBit f = decide (tellL D K.1.1 K.1.2 r f = 1) := by
  have ru : rulesOk D S = true := by
    unfold good at hg; rw [Bool.and_eq_true] at hg; exact hg.2
  have eq := tellR_eq ht
  have h9 : ¬ D 9 r = 1 := fun q => ht (by unfold tellL; rw [if_pos q])
  have rk := (rulesOk_iff.mp ru r hr).resolve_left h9
  rw [eq] at ht ⊢
  unfold tellR at ht ⊢
  unfold rok at rk
  have no : ∀ {x : Bool}, (x = true → False) → x = false := fun {x} h => by cases x; rfl; exact absurd rfl h
  split
  · rename_i k0
    rw [if_pos k0] at ht rk
    split
    · rename_i a
      rw [Bool.and_eq_true, decide_eq_true_iff] at a
      rw [hS.1 _ a.2] at rk
      rw [a.1]
      simpa using rk
    · rename_i a1
      rw [if_neg a1] at ht
      split
      · rename_i a
        rw [Bool.and_eq_true, decide_eq_true_iff] at a
        rw [hS.2 _ a.2] at rk
        rw [a.1]
        simpa using rk
      · rename_i a2
        rw [if_neg a2] at ht; exact absurd rfl ht
  · rename_i k0
    rw [if_neg k0] at ht rk
    split
    · rename_i k1
      rw [if_pos k1] at ht rk
      split
      · rename_i a
        rw [Bool.or_eq_true, Bool.and_eq_true, Bool.and_eq_true, decide_eq_true_iff, decide_eq_true_iff] at a
        rcases a with a | a
        · rw [hS.1 _ a.2] at rk
          rw [a.1]
          simpa using rk
        · rw [hS.1 _ a.2] at rk
          rw [a.1]
          simpa using rk
      · rename_i a
        rw [if_neg a] at ht; exact absurd rfl ht
    · rename_i k1
      rw [if_neg k1] at ht rk
      split
      · rename_i a
        simp only [Bool.and_eq_true, Bool.or_eq_true, decide_eq_true_iff] at a rk
        obtain ⟨-, a6, a7, a8⟩ := a
        have g : ∀ x, (x = f ∨ K.1.2.testBit x = true) → S.testBit x = true → S.testBit f = true := fun x hx hs => by
          rcases hx with hx | hx
          · rw [← hx]; exact hs
          · rw [hS.2 x hx] at hs; cases hs
        rcases rk with (z | z) | z
        · exact g _ a6 z
        · exact g _ a7 z
        · exact g _ a8 z
      · rename_i a
        rw [if_neg a] at ht; exact absurd rfl ht
theorem snd_put (h : sndK D i o K) {f : Nat} {l : Int32} {b : Bool} (hb : ∀ S, S < 2 ^ D 0 0 → cmpl D i o S = true → S.testBit f = b) : sndK D i o (putK K f l b) := by
  intro S hS hc
  obtain ⟨h1, h2⟩ := h S hS hc
  have hb := hb S hS hc
  cases b with
  | true =>
    refine ⟨fun j q => ?_, h2⟩
    have q : (K.1.1 ||| 2 ^ f).testBit j = true := q
    rw [Nat.testBit_or, tb_pow, Bool.or_eq_true, decide_eq_true_iff] at q
    rcases q with q | q
    · exact h1 j q
    · rw [← q]; exact hb
  | false =>
    refine ⟨h1, fun j q => ?_⟩
    have q : (K.1.2 ||| 2 ^ f).testBit j = true := q
    rw [Nat.testBit_or, tb_pow, Bool.or_eq_true, decide_eq_true_iff] at q
    rcases q with q | q
    · exact h2 j q
    · rw [← q]; exact hb
theorem cmpl_good {S : Nat} (h : cmpl D i o S = true) : good D S = true := (cmpl_iff.mp h).2.2
theorem snd_low (w : WF D) (hK : okK D K) (h : sndK D i o K) {K' : Kn} (hl : low D K = some K') : sndK D i o K' := by
  obtain ⟨f, f1, f2, f3⟩ := low_some hl
  have f0 : 1 ≤ f := by
    rcases Nat.eq_zero_or_pos f with z | z
    · rw [z] at f2
      unfold knK at f2
      rw [hK.2.1] at f2; cases f2
    · exact z
  unfold stepF at f3
  by_cases t : treeL D K.1.1 K.1.2 f = 0
  · rw [if_pos t] at f3
    cases q : frs D K.1.1 K.1.2 f (D 0 1) 0 with
    | none => rw [q] at f3; cases f3
    | some r =>
      rw [q] at f3
      cases f3
      obtain ⟨-, r1, r2⟩ := frs_lt q
      exact snd_put (K := byK K f r) h fun S hS hc => rule_snd w (cmpl_good hc) (h S hS hc) (by omega) r2
  · rw [if_neg t] at f3
    cases f3
    exact snd_put h fun S hS hc => tree_snd w (cmpl_good hc) (h S hS hc) f0 f1 f2 t
theorem snd_run (w : WF D) : ∀ (n : Nat) (K : Kn), okK D K → sndK D i o K → sndK D i o (runK D n K)
  | 0, K, _, h => h
  | n + 1, K, hK, h => by
    cases q : low D K with
    | none => rw [runK_none q]; exact h
    | some K' => rw [runK_some q]; exact snd_run w n K' (okK_low hK q) (snd_low w hK h q)
theorem snd_Fin (w : WF D) (hi : i < 2 ^ D 0 0) (ho : o < 2 ^ D 0 0) {K' : Kn} (h : Fin D (K0 i o) K') : sndK D i o K' := by
  obtain ⟨⟨n, hn⟩, -⟩ := h
  rw [← hn]
  exact snd_run w n _ (okK_0 w hi ho) snd_0
end Sound
