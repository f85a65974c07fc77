/-! ===== a fresh object ===== -/
def D0 : Dt := fun x y => if x = 0 then (if y = 0 then 1 else 0) else if x = 3 then (if y = 0 then 12 else 0) else 0
def C0 : St := (fun k => if k = 3 then 1 else 0, fun k => if k = 0 then upd zr 0 (-1) else if k = 3 then upd zr 0 12 else zr)
def M0 : St := (fun k => if k = 0 then 1 else 0, fun k => if k = 0 then upd zr 0 (-1) else if k = 3 then upd zr 0 12 else zr)
theorem d0_z {x y : Nat} (h : x ≠ 0) (h3 : x ≠ 3) : D0 x y = 0 := by unfold D0; rw [if_neg h, if_neg h3]
theorem mkb0 {p : Nat → Bool} {n : Nat} (h : ∀ j, j < n → p j = false) : mkb p n = 0 := Nat.eq_of_testBit_eq fun j => by
  rw [mkb_tb, Nat.zero_testBit]
  by_cases q : j < n
  · rw [h j q, Bool.and_false]
  · rw [decide_eq_false q]; rfl
theorem inv0 : InvD D0 0 0 C0 M0 := by
  have h00 : D0 0 0 = 1 := rfl
  have h01 : D0 0 1 = 0 := rfl
  have h02 : D0 0 2 = 0 := rfl
  have hk : ∀ f, kidM D0 f = 0 := fun f => mkb0 fun c _ => by
    unfold kid
    rw [h00]
    by_cases q : 1 ≤ c
    · rw [decide_eq_false (show ¬ c < 1 by omega)]; simp
    · rw [decide_eq_false q]; simp
  have hm : mandM D0 = 0 := mkb0 fun f _ => by rw [d0_z (by decide) (by decide)]; rfl
  have hf : forceM D0 = 0 := rfl
  have z1 : ∀ f, 1 ≤ f → f < D0 0 0 → False := fun f a b => by rw [h00] at b; omega
  refine ⟨⟨⟨by decide, by decide, by decide, by decide⟩, fun f a b => (z1 f a b).elim, fun f hf => ⟨?_, ?_, ?_⟩, fun f _ _ => ⟨d0_z (by decide) (by decide), d0_z (by decide) (by decide)⟩, fun r hr => absurd hr (Nat.not_lt_zero r), fun f _ => ?_, rfl, fun k hk => absurd hk (Nat.not_lt_zero k)⟩, ⟨by decide, by decide⟩, ⟨1, by decide, by decide +kernel⟩, ?_, ?_⟩
  · rw [d0_z (by decide) (by decide)]; decide
  · unfold D0
    rw [if_neg (by decide), if_pos rfl]
    split <;> decide
  · rw [d0_z (by decide) (by decide)]; decide
  · rw [d0_z (by decide) (by decide)]; decide
  · refine ⟨⟨rfl, rfl, by rw [hm]; rfl, rfl, by rw [hf]; rfl, rfl, rfl⟩, ⟨rfl, fun f a b => (z1 f a b).elim, fun f _ => by rw [hk]; rfl, fun f _ => by rw [d0_z (by decide) (by decide)]; rfl, fun f h => ?_⟩, fun r hr => absurd hr (Nat.not_lt_zero r), fun f _ => by rw [d0_z (by decide) (by decide)]; rfl, fun k hk => absurd hk (Nat.not_lt_zero k)⟩
    rw [h00] at h
    rw [show f = 0 by omega]; rfl
  · refine ⟨⟨rfl, rfl, rfl, rfl, rfl⟩, ⟨rfl, fun f a b => (z1 f a b).elim, fun f _ => by rw [d0_z (by decide) (by decide)]; rfl, fun f _ => by rw [d0_z (by decide) (by decide)]; rfl, fun f h => ?_, fun f _ => by rw [d0_z (by decide) (by decide)]; rfl⟩, fun r hr => absurd hr (Nat.not_lt_zero r), fun k hk => absurd hk (Nat.not_lt_zero k)⟩
    rw [h00] at h
    rw [show f = 0 by omega]; rfl
