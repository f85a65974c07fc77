/-! ===== the cheapest ===== -/
def chp (D : Dt) (S T : Nat) : Prop := (priceI D S).toInt < (priceI D T).toInt ∨ ((priceI D S).toInt = (priceI D T).toInt ∧ (pop S < pop T ∨ (pop S = pop T ∧ S < T)))
def chpB (D : Dt) (S T : Nat) : Bool := decide ((priceI D S).toInt < (priceI D T).toInt) || (decide ((priceI D S).toInt = (priceI D T).toInt) && (decide (pop S < pop T) || (decide (pop S = pop T) && decide (S < T))))
theorem chpB_iff {D : Dt} {S T : Nat} : chpB D S T = true ↔ chp D S T := by
  unfold chpB chp
  rw [Bool.or_eq_true, Bool.and_eq_true, Bool.or_eq_true, Bool.and_eq_true, decide_eq_true_iff, decide_eq_true_iff, decide_eq_true_iff, decide_eq_true_iff, decide_eq_true_iff]
def oI : Option Nat → Int32
  | none => -1
  | some S => nI S
def mn (D : Dt) : Option Nat → Option Nat → Option Nat
  | none, b => b
  | some S, none => some S
  | some S, some T => if chpB D T S then some T else some S
theorem mn_ss (D : Dt) (S T : Nat) : mn D (some S) (some T) = if chpB D T S then some T else some S := rfl
def isBest (D : Dt) (P : Nat → Prop) : Option Nat → Prop
  | none => ∀ S, ¬ P S
  | some S => P S ∧ ∀ T, P T → ¬ chp D T S
theorem isBest_uniq {D : Dt} {P : Nat → Prop} {a b : Option Nat} (ha : isBest D P a) (hb : isBest D P b) : a = b := by
  cases a with
  | none =>
    cases b with
    | none => rfl
    | some T => exact absurd hb.1 (ha T)
  | some S =>
    cases b with
    | none => exact absurd ha.1 (hb S)
    | some T =>
      have h1 := ha.2 T hb.1
      have h2 := hb.2 S ha.1
      unfold chp at h1 h2
      have : S = T := by omega
      rw [this]
theorem isBest_cong {D : Dt} {P Q : Nat → Prop} (h : ∀ S, P S ↔ Q S) {a : Option Nat} (ha : isBest D P a) : isBest D Q a := by
  cases a with
  | none => exact fun S q => ha S ((h S).mpr q)
  | some S => exact ⟨(h S).mp ha.1, fun T q => ha.2 T ((h T).mpr q)⟩
theorem isBest_mn {D : Dt} {P Q : Nat → Prop} {a b : Option Nat} (ha : isBest D P a) (hb : isBest D Q b) : isBest D (fun S => P S ∨ Q S) (mn D a b) := by
  cases a with
  | none => exact isBest_cong (fun S => ⟨Or.inr, fun q => q.elim (fun z => absurd z (ha S)) id⟩) hb
  | some S =>
    cases b with
    | none => exact isBest_cong (fun S => ⟨Or.inl, fun q => q.elim id (fun z => absurd z (hb S))⟩) ha
    | some T =>
      rw [mn_ss]
      obtain ⟨a1, a2⟩ := ha
      obtain ⟨b1, b2⟩ := hb
      cases hc : chpB D T S with
      | true =>
        rw [if_pos rfl]
        have hc := chpB_iff.mp hc
        refine ⟨Or.inr b1, fun U q => ?_⟩
        rcases q with q | q
        · have := a2 U q
          unfold chp at this hc ⊢
          omega
        · exact b2 U q
      | false =>
        rw [if_neg (by decide)]
        have hc : ¬ chp D T S := fun q => by rw [chpB_iff.mpr q] at hc; cases hc
        refine ⟨Or.inl a1, fun U q => ?_⟩
        rcases q with q | q
        · exact a2 U q
        · have := b2 U q
          unfold chp at this hc ⊢
          omega
theorem isBest_one {D : Dt} (S : Nat) : isBest D (fun T => T = S) (some S) := ⟨rfl, fun T q => by rw [q]; unfold chp; omega⟩
theorem isBest_none {D : Dt} : isBest D (fun _ => False) none := fun _ h => h
def bestTo (D : Dt) (p : Nat → Bool) (n : Nat) : Option Nat := fo p (fun b S => mn D b (some S)) none n
theorem bestTo_is {D : Dt} {p : Nat → Bool} : ∀ n, isBest D (fun S => S < n ∧ p S = true) (bestTo D p n)
  | 0 => fun S h => absurd h.1 (Nat.not_lt_zero S)
  | n + 1 => by
    have ih := bestTo_is (D := D) (p := p) n
    unfold bestTo at ih ⊢
    rw [fo_s]
    cases hp : p n with
    | true =>
      rw [if_pos rfl]
      refine isBest_cong (fun S => ?_) (isBest_mn ih (isBest_one n))
      constructor
      · intro q
        rcases q with q | q
        · exact ⟨by omega, q.2⟩
        · exact ⟨by omega, by rw [q]; exact hp⟩
      · intro ⟨q, z⟩
        rcases Nat.lt_succ_iff_lt_or_eq.mp q with y | y
        · exact Or.inl ⟨y, z⟩
        · exact Or.inr y
    | false =>
      rw [if_neg (by decide)]
      refine isBest_cong (fun S => ?_) ih
      constructor
      · intro q
        exact ⟨by omega, q.2⟩
      · intro ⟨q, z⟩
        rcases Nat.lt_succ_iff_lt_or_eq.mp q with y | y
        · exact ⟨y, z⟩
        · rw [y, hp] at z; cases z
theorem isBest_bd {D : Dt} {P : Nat → Prop} {n : Nat} (hP : ∀ S, P S → S < n) {a : Option Nat} (ha : isBest D P a) : ∀ S, a = some S → S < n := fun S h => by
  rw [h] at ha; exact hP S ha.1
section Best
variable {D : Dt} {i o : Nat} {C M : St}
theorem ilt {x y : Int32} : x < y ↔ x.toInt < y.toInt := Int32.lt_iff_toInt_lt
theorem ile {x y : Int32} : x ≤ y ↔ x.toInt ≤ y.toInt := Int32.le_iff_toInt_le
theorem ieq {x y : Int32} : x = y ↔ x.toInt = y.toInt := ⟨fun h => by rw [h], Int32.toInt_inj.mp⟩
theorem cCmp (x y : Int32) : pJ6_compare_7cf53 x y = some (if x.toInt < y.toInt then -1 else if x.toInt = y.toInt then 0 else 1) := by
  unfold pJ6_compare_7cf53
  by_cases h : x.toInt < y.toInt
  · rw [if_pos h, if_neg (fun q => by have := ile.mp q; omega)]
  · rw [if_neg h, if_pos (ile.mpr (by omega))]
    by_cases q : x.toInt = y.toInt
    · rw [if_pos q, if_pos (ieq.mpr q)]
    · rw [if_neg q, if_neg (fun z => q (ieq.mp z))]
theorem oI_neg (h : o < 2 ^ 31) : ¬ oI (some o) < 0 := nI_pos h
theorem cCheaper (h : RelC D i o C) (w : WF D) {a b : Option Nat} (ha : ∀ S, a = some S → S < 2 ^ D 0 0) (hb : ∀ S, b = some S → S < 2 ^ D 0 0) : pX2_cheaperOf C (oI a) (oI b) = some (oI (mn D a b)) := by
  obtain ⟨n1, n2⟩ := w.n
  have q31 : ∀ {x : Nat}, x < 2 ^ D 0 0 → x < 2 ^ 31 := fun hx => Nat.lt_of_lt_of_le (p12 hx n2) (by decide)
  unfold pX2_cheaperOf
  cases a with
  | none =>
    rw [if_pos (show oI none < 0 by decide)]
    unfold pX2_cheaperOf_8
    cases b with
    | none => rfl
    | some T =>
      have hT := q31 (hb T rfl)
      rw [if_pos (show oI none < oI (some T) from ilt.mpr (by
        show (-1 : Int32).toInt < (nI T).toInt
        rw [nI_toInt hT]; have : (-1 : Int32).toInt = -1 := by decide
        omega))]
      rfl
  | some S =>
    have hS := q31 (ha S rfl)
    rw [if_neg (show ¬ oI (some S) < 0 from nI_pos hS)]
    cases b with
    | none =>
      rw [if_neg (show ¬ (0 : Int32) ≤ oI none by decide)]
      unfold pX2_cheaperOf_8
      rw [if_neg (show ¬ oI (some S) < oI none from fun q => by
        have := ilt.mp q
        rw [show (oI (some S)).toInt = S from nI_toInt hS] at this
        have e : (oI none).toInt = -1 := by decide
        omega)]
      rfl
    | some T =>
      have hT := q31 (hb T rfl)
      rw [if_pos (show (0 : Int32) ≤ oI (some T) from nI_pos' hT)]
      unfold pX2_cheaperOf_44 pX2_cheaperOf_54
      show (bd (pX2_ofSet C (nI S)) fun r_1 => bd (pX2_ofSet C (nI T)) fun r_2 => _) = _
      rw [bd_t (cPrice h w (ha S rfl)), bd_t (cPrice h w (hb T rfl)), bd_t (cCmp _ _)]
      simp only [show oI (some S) = nI S from rfl, show oI (some T) = nI T from rfl, bd_t (bitCnt (p12 (ha S rfl) n2)), bd_t (bitCnt (p12 (hb T rfl) n2)), bd_t (cCmp _ _)]
      have ps : (nI (ct (fun i => S.testBit i) 12)).toInt = (pop S : Int) := nI_toInt (by have := pop_le S; unfold pop at this; omega)
      have pt : (nI (ct (fun i => T.testBit i) 12)).toInt = (pop T : Int) := nI_toInt (by have := pop_le T; unfold pop at this; omega)
      simp only [ps, pt, nI_toInt hS, nI_toInt hT]
      rw [mn_ss]
      have e1 : ((-1 : Int32) = 0) = False := by decide
      have e2 : ((1 : Int32) = 0) = False := by decide
      have e3 : ((0 : Int32) < -1) = False := by decide
      have e4 : ((0 : Int32) < 1) = True := by decide
      have e5 : ((0 : Int32) < 0) = False := by decide
      by_cases c : chp D T S
      · rw [if_pos (chpB_iff.mpr c)]
        unfold chp at c
        rcases c with c | ⟨c, d⟩
        · simp only [if_neg (show ¬ (priceI D S).toInt < (priceI D T).toInt by omega), if_neg (show ¬ (priceI D S).toInt = (priceI D T).toInt by omega), e2, e4, if_false, if_true]; rfl
        · simp only [if_neg (show ¬ (priceI D S).toInt < (priceI D T).toInt by omega), if_pos (show (priceI D S).toInt = (priceI D T).toInt by omega), if_true]
          rcases d with d | ⟨d, g⟩
          · simp only [if_neg (show ¬ (pop S : Int) < pop T by omega), if_neg (show ¬ (pop S : Int) = pop T by omega), e2, e4, if_false, if_true]; rfl
          · simp only [if_neg (show ¬ (pop S : Int) < pop T by omega), if_pos (show (pop S : Int) = pop T by omega), if_true, if_neg (show ¬ (S : Int) < T by omega), if_neg (show ¬ (S : Int) = T by omega), e4]; rfl
      · rw [if_neg (fun q => c (chpB_iff.mp q))]
        unfold chp at c
        by_cases c1 : (priceI D S).toInt < (priceI D T).toInt
        · simp only [if_pos c1, e1, e3, if_false]; rfl
        · simp only [if_neg c1, if_pos (show (priceI D S).toInt = (priceI D T).toInt by omega), if_true]
          by_cases c2 : (pop S : Int) < pop T
          · simp only [if_pos c2, e1, e3, if_false]; rfl
          · simp only [if_neg c2, if_pos (show (pop S : Int) = pop T by omega), if_true]
            by_cases c3 : (S : Int) < T
            · simp only [if_pos c3, e3, if_false]; rfl
            · simp only [if_neg c3, if_pos (show (S : Int) = T by omega), e5, if_false]; rfl
theorem mCheaper (h : RelM D i o M) (w : WF D) {S T : Nat} (hS : S < 2 ^ D 0 0) (hT : T < 2 ^ D 0 0) : pX7_isCheaper M (nI S) (nI T) = some (b2i (chpB D S T)) := by
  obtain ⟨n1, n2⟩ := w.n
  have q31 : ∀ {x : Nat}, x < 2 ^ D 0 0 → x < 2 ^ 31 := fun hx => Nat.lt_of_lt_of_le (p12 hx n2) (by decide)
  unfold pX7_isCheaper
  rw [bd_t (mPrice h w hS), bd_t (mPrice h w hT), bd_t (bitCnt (p12 hS n2)), bd_t (bitCnt (p12 hT n2))]
  have ps : (nI (ct (fun i => S.testBit i) 12)).toInt = (pop S : Int) := nI_toInt (by have := pop_le S; unfold pop at this; omega)
  have pt : (nI (ct (fun i => T.testBit i) 12)).toInt = (pop T : Int) := nI_toInt (by have := pop_le T; unfold pop at this; omega)
  simp only [ilt, ieq, ile, ps, pt, nI_toInt (q31 hS), nI_toInt (q31 hT)]
  by_cases c : chp D S T
  · rw [chpB_iff.mpr c]
    unfold chp at c
    rcases c with c | ⟨c, d⟩
    · rw [if_pos c]; rfl
    · rw [if_neg (by omega), if_pos c]
      rcases d with d | ⟨d, g⟩
      · rw [if_pos (by omega)]; rfl
      · rw [if_neg (by omega), if_pos (by omega), if_neg (by omega)]; rfl
  · have : chpB D S T = false := by cases q : chpB D S T with
      | false => rfl
      | true => exact absurd (chpB_iff.mp q) c
    rw [this]
    unfold chp at c
    rw [if_neg (by omega)]
    split
    · rw [if_neg (by omega)]
      split
      · rw [if_pos (by omega)]; rfl
      · rfl
    · rfl
end Best
