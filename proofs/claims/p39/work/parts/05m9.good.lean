section ModelGood3
variable {D : Dt} {i o : Nat} {M : St}
theorem nleI {a b : Nat} (ha : a < 2 ^ 31) (hb : b < 2 ^ 31) (h : a ≤ b) : nI a ≤ nI b := (nI_leI ha hb).mpr h
theorem nleN {a b : Nat} (ha : a < 2 ^ 31) (hb : b < 2 ^ 31) (h : b < a) : ¬ nI a ≤ nI b := fun q => by have := (nI_leI ha hb).mp q; omega
theorem nltI {a b : Nat} (ha : a < 2 ^ 31) (hb : b < 2 ^ 31) (h : a < b) : nI a < nI b := (nI_ltI ha hb).mpr h
theorem nltN {a b : Nat} (ha : a < 2 ^ 31) (hb : b < 2 ^ 31) (h : b ≤ a) : ¬ nI a < nI b := fun q => by have := (nI_ltI ha hb).mp q; omega
theorem mGood192 (h : RelM D i o M) (w : WF D) {S : Nat} (hS : S < 2 ^ 12) (b : Bool) : pX7_isGood_192 M (nI S) (b2i b) = some (b2i (b && rulesOk D S)) := by
  have r20 := w.r
  have hS31 : S < 2 ^ 31 := Nat.lt_of_lt_of_le hS (by decide)
  have key : ∀ N r, r ≤ D 0 1 → D 0 1 < r + N → pX7_isGood_194 N M (nI S) (b2i (b && allb (fun r => decide (D 9 r = 1) || rok D S r) r)) (nI r) = some (b2i (b && rulesOk D S)) := by
    refine loopF (m := D 0 1) (fun N => ?_) (fun N r hr => ?_)
    · show pX7_isGood_194_b (pX7_isGood_194 N) M (nI S) _ (nI (D 0 1)) = _
      unfold pX7_isGood_194_b
      rw [h.r, if_pos (nleI (by omega) (by omega) (Nat.le_refl _)), gd_t (b2i_ok _)]
      rfl
    · show pX7_isGood_194_b (pX7_isGood_194 N) M (nI S) _ (nI r) = _ ∨ pX7_isGood_194_b (pX7_isGood_194 N) M (nI S) _ (nI r) = _
      have hl := (w.ru hr).2.2.2.2.1
      unfold pX7_isGood_194_b
      rw [h.r, if_neg (nleN (by omega) (by omega) hr)]
      cases hb : (b && allb (fun r => decide (D 9 r = 1) || rok D S r) r) with
      | false =>
        right
        rw [if_pos (show b2i false = 0 from rfl), gd_t (b2i_ok _)]
        have : (b && rulesOk D S) = false := by
          cases b with
          | false => rfl
          | true =>
            obtain ⟨k, h1, h2⟩ := allb_false.mp (show allb (fun r => decide (D 9 r = 1) || rok D S r) r = false by simpa using hb)
            exact allb_false.mpr ⟨k, by omega, h2⟩
        rw [this]
      | true =>
        left
        rw [if_neg (by decide), gd_ix (show r < 20 by omega), nI_clp (show r < 2 ^ 31 by omega), (h.ru hr).1]
        have hb' : b = true ∧ allb (fun r => decide (D 9 r = 1) || rok D S r) r = true := by simpa using hb
        show _ = pX7_isGood_194 N M (nI S) (b2i (b && (allb (fun r => decide (D 9 r = 1) || rok D S r) r && (decide (D 9 r = 1) || rok D S r)))) (nI (r + 1))
        rw [hb'.1, hb'.2]
        unfold pX7_isGood_229 pX7_isGood_224 pX7_isGood_229
        simp only [ltv, nI_1, bd_t (mKeeps h w hr hS31)]
        by_cases z : D 9 r = 1
        · rw [if_neg (fun q => by have := (nI0 (by omega)).mp q; omega), decide_eq_true z]; rfl
        · rw [if_pos (by rw [show D 9 r = 0 by omega]; rfl), decide_eq_false z]
          cases rok D S r <;> rfl
  have := key FU 0 (Nat.zero_le _) (by unfold FU; omega)
  rw [show allb (fun r => decide (D 9 r = 1) || rok D S r) 0 = true from rfl, Bool.and_true] at this
  exact this
theorem mGood (h : RelM D i o M) (w : WF D) {S : Nat} (hS : S < 2 ^ 12) : pX7_isGood M (nI S) = some (b2i (good D S)) := by
  obtain ⟨n1, n2⟩ := w.n
  have hS31 : S < 2 ^ 31 := Nat.lt_of_lt_of_le hS (by decide)
  have key : ∀ N f, f ≤ D 0 0 → D 0 0 < f + N → pX7_isGood_8 N M (nI S) (b2i (S.testBit 0 && allb (fun f => !S.testBit f || okAt D S f) f)) (nI f) = some (b2i (good D S)) := by
    refine loopF (m := D 0 0) (fun N => ?_) (fun N f hf => ?_)
    · show pX7_isGood_8_b (pX7_isGood_8 N) M (nI S) _ (nI (D 0 0)) = _
      unfold pX7_isGood_8_b
      rw [h.n, if_pos (nleI (by omega) (by omega) (Nat.le_refl _)), mGood192 h w hS]
      rfl
    · show pX7_isGood_8_b (pX7_isGood_8 N) M (nI S) _ (nI f) = _ ∨ pX7_isGood_8_b (pX7_isGood_8 N) M (nI S) _ (nI f) = _
      unfold pX7_isGood_8_b
      rw [h.n, if_neg (nleN (by omega) (by omega) hf)]
      cases hb : (S.testBit 0 && allb (fun f => !S.testBit f || okAt D S f) f) with
      | false =>
        right
        rw [if_pos (show b2i false = 0 from rfl), mGood192 h w hS]
        have : treeOk D S = false := by
          unfold treeOk
          cases h0 : S.testBit 0 with
          | false => rfl
          | true =>
            rw [h0] at hb
            obtain ⟨k, h1, h2⟩ := allb_false.mp (show allb (fun f => !S.testBit f || okAt D S f) f = false by simpa using hb)
            rw [allb_false.mpr ⟨k, (by omega : k < D 0 0), h2⟩]; rfl
        unfold good
        rw [this]
      | true =>
        left
        rw [if_neg (by decide), mGood26 h w hS hf, ← hb, Bool.and_assoc]
        rfl
  unfold pX7_isGood
  rw [bd_t (show pX7_has M (nI S) 0 = _ from mHas M (f := 0) hS31 (by omega))]
  have := key FU 0 (Nat.zero_le _) (by unfold FU; omega)
  rw [show allb (fun f => !S.testBit f || okAt D S f) 0 = true from rfl, Bool.and_true] at this
  exact this
theorem sub_adn {i S : Nat} : S &&& i = i ↔ adn i S = 0 := by
  constructor
  · intro h
    refine Nat.eq_of_testBit_eq fun j => ?_
    rw [adn_tb, Nat.zero_testBit]
    have : (S &&& i).testBit j = i.testBit j := by rw [h]
    rw [Nat.testBit_and] at this
    cases a : S.testBit j <;> cases b : i.testBit j <;> simp_all
  · intro h
    refine Nat.eq_of_testBit_eq fun j => ?_
    rw [Nat.testBit_and]
    have : (adn i S).testBit j = false := by rw [h, Nat.zero_testBit]
    rw [adn_tb] at this
    cases a : S.testBit j <;> cases b : i.testBit j <;> simp_all
theorem mCompletes (h : RelM D i o M) (w : WF D) {S : Nat} (hS : S < 2 ^ 12) (hi : i < 2 ^ 12) (ho : o < 2 ^ 12) : pX7_completes M (nI S) = some (b2i (cmpl D i o S)) := by
  have hS31 : S < 2 ^ 31 := Nat.lt_of_lt_of_le hS (by decide)
  have hi31 : i < 2 ^ 31 := Nat.lt_of_lt_of_le hi (by decide)
  have ha : S &&& i < 2 ^ 31 := Nat.lt_of_le_of_lt Nat.and_le_left hS31
  have hb : S &&& o < 2 ^ 31 := Nat.lt_of_le_of_lt Nat.and_le_left hS31
  unfold pX7_completes cmpl
  rw [h.ci, h.co, nI_land, nI_land]
  rw [Nat.and_comm S o] at hb ⊢
  simp only [nI_eq ha hi31, nI0 hb, sub_adn, bd_t (mGood h w hS)]
  by_cases a : adn i S = 0
  · rw [if_pos a, decide_eq_true a]
    by_cases b : o &&& S = 0
    · rw [if_pos b, decide_eq_true b]
      cases good D S <;> rfl
    · rw [if_neg b, decide_eq_false b]; rfl
  · rw [if_neg a, decide_eq_false a]; rfl
theorem cmpl_odd {ii oo S : Nat} (h : cmpl D ii oo S = true) : S.testBit 0 = true := by
  unfold cmpl good treeOk at h
  simp only [Bool.and_eq_true] at h
  exact h.2.2.1.1
theorem good_odd {S : Nat} (h : good D S = true) : S.testBit 0 = true := by
  unfold good treeOk at h
  simp only [Bool.and_eq_true] at h
  exact h.1.1
theorem odd_2k {S : Nat} : S.testBit 0 = true ↔ ∃ k, S = 2 * k + 1 := by
  rw [Nat.testBit_zero, decide_eq_true_iff]
  exact ⟨fun h => ⟨S / 2, by omega⟩, fun ⟨k, h⟩ => by omega⟩
theorem pow_half {n : Nat} (h : 1 ≤ n) : 2 ^ n = 2 * 2 ^ (n - 1) := by
  obtain ⟨m, rfl⟩ : ∃ m, n = m + 1 := ⟨n - 1, by omega⟩
  rw [Nat.add_sub_cancel, Nat.pow_succ]; omega
theorem p2le (w : WF D) : 2 ^ D 0 0 ≤ 4096 := Nat.pow_le_pow_right (by decide) w.n.2
theorem shAll (w : WF D) : (1 : Int32) <<< (nI (D 0 0) &&& 31) = nI (2 ^ D 0 0) := nI_sh _ (by have := w.n.2; omega)
/-- the model's loop over the odd sets: k is its round's number -/
theorem mNoneLeft (h : RelM D i o M) (w : WF D) (hi : i < 2 ^ 12) (ho : o < 2 ^ 12) : ∃ b : Bool, pX7_isNoneLeft M = some (b2i b) ∧ (b = false ↔ ∃ S, S < 2 ^ D 0 0 ∧ cmpl D i o S = true) := by
  obtain ⟨n1, n2⟩ := w.n
  have hp := p2le w
  have hh := pow_half n1
  have key : ∀ N k, k ≤ 2 ^ (D 0 0 - 1) → 2 ^ (D 0 0 - 1) < k + N → pX7_isNoneLeft_2 N M (nI (2 * k + 1)) = some (b2i (allb (fun j => !(decide (k ≤ j) && cmpl D i o (2 * j + 1))) (2 ^ (D 0 0 - 1)))) := by
    intro N
    induction N with
    | zero => intro k h1 h2; omega
    | succ N ih =>
      intro k h1 h2
      show pX7_isNoneLeft_2_b (pX7_isNoneLeft_2 N) M (nI (2 * k + 1)) = _
      unfold pX7_isNoneLeft_2_b
      rw [h.n, shAll w]
      rcases Nat.lt_or_ge k (2 ^ (D 0 0 - 1)) with q | q
      · rw [if_neg (nleN (by omega) (by omega) (by omega)), bd_t (mCompletes h w (show 2 * k + 1 < 2 ^ 12 by omega) hi ho)]
        cases hc : cmpl D i o (2 * k + 1) with
        | true =>
          rw [if_neg (by decide)]
          rw [allb_false.mpr ⟨k, q, by rw [hc]; simp⟩]; rfl
        | false =>
          rw [if_pos (by decide)]
          simp only [ltv]
          have e2 : nI (2 * k + 1) + 2 = nI (2 * (k + 1) + 1) := (nI_add (2 * k + 1) 2).trans (by congr 1)
          rw [e2, ih (k + 1) q (by omega)]
          congr 2
          refine allb_cong fun j _ => ?_
          by_cases z : j = k
          · subst z; rw [hc]; simp
          · congr 2
            exact decide_eq_decide.mpr (by omega)
      · rw [if_pos (nleI (by omega) (by omega) (by omega)), allb_iff.mpr (fun j hj => by rw [decide_eq_false (by omega)]; rfl)]
        rfl
  refine ⟨_, key FU 0 (Nat.zero_le _) (by unfold FU; omega), ?_⟩
  rw [allb_false]
  constructor
  · intro ⟨k, h1, h2⟩
    exact ⟨2 * k + 1, by omega, by simpa using h2⟩
  · intro ⟨S, h1, h2⟩
    obtain ⟨k, rfl⟩ := odd_2k.mp (cmpl_odd h2)
    exact ⟨k, by omega, by rw [h2]; simp⟩
end ModelGood3
