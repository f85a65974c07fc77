def rmX4_reaches (d : Nat) : Room := { frames := d + 3, cells := 0, slots := 0, locals := 26 * d + 70 }

theorem in_wsX4_reaches_X5 : ∀ w ∈ u_ws RX5 TX5 6, w ∈ wsX4_reaches := by decide +kernel

set_option maxHeartbeats 4000000 in
set_option maxRecDepth 100000 in
theorem wX4_reaches_45 {p : Program} {l : Launch} {e : Env} {s : State} {m : MethodId} {args : Array Value} {below : List Frame} {meth : Method} {c : Code} {G : GT} {q : Nat → Nat} {C : St} {d : Nat} {self : St → Int32 → Int32 → Int32 → Int32 → Option (Int32)} (hself : ∀ (x2 : Int32) (x3 : Int32) (x4 : Int32) (x5 : Int32) (r : Int32), self C x2 x3 x4 x5 = some r → Met l yX4_reaches wsX4_reaches (rmX4_reaches d) (va_Pc [.ref (q 1), .ref (q 2), .int x2, .int x3, .int x4, .int x5] (roP G (CW G q C))) (vp_Si (fun v => v = r)) 0 0 (fun _ => False)) {out : Int32} (bx : BX p RX4 wsX4_reaches cX4_reaches 7 (some .boolean) s m args meth c) (hP : va_P G.1 vwCl (CW G q C) s.heap) (hK : CK G s) (x2 : Int32) (x3 : Int32) (x4 : Int32) (x5 : Int32) (x6 : Int32) (h : pX4_reaches_45 self C x2 x3 x4 x5 x6 = some out) (ls : Array Slot) (hl : lv_has ls 7 [(0, .ref (q 1)), (1, .ref (q 2)), (2, .int x2), (3, .int x3), (4, .int x4), (5, .int x5), (6, .int x6)]) : GoI p l e (rmX4_reaches (d + 1)) s m args below meth c out (F0 m 45 ls []) := by
  obtain ⟨hx, hb, hr, hts, hown, hml, hlocks⟩ := id bx
  unfold pX4_reaches_45 at h
  refine lv_aload_n hx hb dX4_reaches_45 rfl (lv_at hl 0 rfl) ?_
  refine lv_aload_n hx hb dX4_reaches_46 rfl (lv_at hl 1 rfl) ?_
  refine lv_iload_n hx hb dX4_reaches_47 rfl (lv_at hl 2 rfl) ?_
  refine lv_iload_n hx hb dX4_reaches_48 rfl (lv_at hl 3 rfl) ?_
  refine lv_iload hx hb dX4_reaches_49 (lv_at hl 5 rfl) ?_
  obtain ⟨r_3, hr_3, h⟩ := bd_ex h
  refine ro_i (va_runS (As := [.ref (q 1), .ref (q 2), .int x2, .int x3, .int x5]) (rest := []) ⟨hx, hb, hml, hown, hts⟩ (kX4_canTake l G q C x2 x3 x5 r_3 hr_3) (va_cwS 5 hts gX4_reaches_X4_canTake rfl rfl rfl (by decide +kernel) ⟨by simp only [rmX4_reaches, rmX4_canTake]; omega, by simp only [rmX4_reaches, rmX4_canTake]; omega⟩) (roS hP hK) rfl rfl hl.1 rfl (lv_room (Nat.le_of_ble_eq_true rfl)) dX4_reaches_51 ⟨Nat.zero_le _, Nat.zero_le _⟩) ?_
  refine lv_if_eq (tgt := 78) hx hb dX4_reaches_54 (by decide) (fun c_54 => ?_) (fun c_54 => ?_)
  · have h := br_T h c_54
    refine lv_iconst (v := 0) hx hb dX4_reaches_78 (by decide) ?_
    exact GoI.end hx hb hr hlocks dX4_reaches_79 rfl h
  · have h := br_F h c_54
    refine lv_aload_n hx hb dX4_reaches_57 rfl (lv_at hl 0 rfl) ?_
    refine lv_aload_n hx hb dX4_reaches_58 rfl (lv_at hl 1 rfl) ?_
    refine lv_iload_n hx hb dX4_reaches_59 rfl (lv_at hl 2 rfl) ?_
    refine lv_iconst (v := 1) hx hb dX4_reaches_60 (by decide) ?_
    refine lv_iadd hx hb dX4_reaches_61 ?_
    refine lv_iload hx hb dX4_reaches_62 (lv_at hl 6 rfl) ?_
    refine lv_iload hx hb dX4_reaches_64 (lv_at hl 4 rfl) ?_
    refine lv_iload hx hb dX4_reaches_66 (lv_at hl 5 rfl) ?_
    obtain ⟨r_4, hr_4, h⟩ := bd_ex h
    refine ro_i (va_runS (As := [.ref (q 1), .ref (q 2), .int (x2 + 1), .int x6, .int x4, .int x5]) (rest := []) ⟨hx, hb, hml, hown, hts⟩ (hself (x2 + 1) x6 x4 x5 r_4 hr_4) (va_cwS 6 hts gX4_reaches_X4_reaches rfl rfl rfl (by decide +kernel) ⟨by simp only [rmX4_reaches]; omega, by simp only [rmX4_reaches]; omega⟩) (roS hP hK) rfl rfl hl.1 rfl (lv_room (Nat.le_of_ble_eq_true rfl)) dX4_reaches_68 ⟨Nat.zero_le _, Nat.zero_le _⟩) ?_
    refine lv_if_eq (tgt := 78) hx hb dX4_reaches_71 (by decide) (fun c_71 => ?_) (fun c_71 => ?_)
    · have h := br_T h c_71
      refine lv_iconst (v := 0) hx hb dX4_reaches_78 (by decide) ?_
      exact GoI.end hx hb hr hlocks dX4_reaches_79 rfl h
    · have h := br_F h c_71
      refine lv_iconst (v := 1) hx hb dX4_reaches_74 (by decide) ?_
      refine lv_goto (tgt := 79) hx hb dX4_reaches_75 (by decide) ?_
      exact GoI.end hx hb hr hlocks dX4_reaches_79 rfl h

set_option maxHeartbeats 4000000 in
set_option maxRecDepth 100000 in
theorem kX4_reaches_e (l : Launch) (d : Nat) (G : GT) (q : Nat → Nat) (C : St) {self : St → Int32 → Int32 → Int32 → Int32 → Option (Int32)} (hself : ∀ (x2 : Int32) (x3 : Int32) (x4 : Int32) (x5 : Int32) (r : Int32), self C x2 x3 x4 x5 = some r → Met l yX4_reaches wsX4_reaches (rmX4_reaches d) (va_Pc [.ref (q 1), .ref (q 2), .int x2, .int x3, .int x4, .int x5] (roP G (CW G q C))) (vp_Si (fun v => v = r)) 0 0 (fun _ => False)) (x2 : Int32) (x3 : Int32) (x4 : Int32) (x5 : Int32) (r : Int32) (h : pX4_reaches_e self C x2 x3 x4 x5 = some r) : Met l yX4_reaches wsX4_reaches (rmX4_reaches (d + 1)) (va_Pc [.ref (q 1), .ref (q 2), .int x2, .int x3, .int x4, .int x5] (roP G (CW G q C))) (vp_Si (fun v => v = r)) 0 0 (fun _ => False) := by
  refine Met.ofW (cc := cX4_reaches) (maxL := 7) (ret := (some .boolean)) (by decide) rfl ?_
  intro p e s m args below meth c s₁ B hml hv
  obtain ⟨rfl, hP, hK⟩ := hv
  have bx := bx_of B hml
  obtain ⟨hx, hb, hr, hts, hown, hml, hlocks⟩ := id bx
  have hl := lv_entry ([.ref (q 1), .ref (q 2), .int x2, .int x3, .int x4, .int x5]) (n := 7) (Nat.le_of_ble_eq_true rfl)
  rw [lg_entry_eq]
  generalize (lg_sl ([.ref (q 1), .ref (q 2), .int x2, .int x3, .int x4, .int x5]) ++ List.replicate (7 - (lg_sl ([.ref (q 1), .ref (q 2), .int x2, .int x3, .int x4, .int x5])).length) Slot.unset).toArray = ls at hl ⊢
  have hl : lv_has ls 7 [(0, .ref (q 1)), (1, .ref (q 2)), (2, .int x2), (3, .int x3), (4, .int x4), (5, .int x5)] := hl
  show GoI p l e (rmX4_reaches (d + 1)) s m _ below meth c r (F0 m 0 ls [])
  unfold pX4_reaches_e at h
  refine lv_iload_n hx hb dX4_reaches_0 rfl (lv_at hl 2 rfl) ?_
  refine lv_aload_n hx hb dX4_reaches_1 rfl (lv_at hl 0 rfl) ?_
  refine va_getN (D := G.1) (ci := 4) (v := .int (C.1 3)) (C := RX5) (T := TX5) (N := 6) hx hb hts in_wsX4_reaches_X5 hown hK.1 hP 1 rfl rfl 5 (by decide) (hK.2.at 39 rfl) (fun _ h9 => h9) rfl dX4_reaches_2 ?_
  refine lv_icmp_lt (tgt := 10) hx hb dX4_reaches_5 (by decide) (fun c_5 => ?_) (fun c_5 => ?_)
  · have h := br_T h c_5
    refine lv_iload_n hx hb dX4_reaches_10 rfl (lv_at hl 3 rfl) ?_
    refine lv_iconst (v := 1) hx hb dX4_reaches_11 (by decide) ?_
    refine lv_iload_n hx hb dX4_reaches_12 rfl (lv_at hl 2 rfl) ?_
    refine lv_ishl hx hb dX4_reaches_13 ?_
    refine lv_ior hx hb dX4_reaches_14 ?_
    refine lv_topi (fun v_1 ev_1 => ?_)
    have h := ltv_at h v_1 ev_1
    refine lv_istore (lv' := [(6, .int v_1), (0, .ref (q 1)), (1, .ref (q 2)), (2, .int x2), (3, .int x3), (4, .int x4), (5, .int x5)]) hx hb dX4_reaches_15 hl (by decide) rfl (fun ls hl => ?_)
    refine lv_aload_n hx hb dX4_reaches_17 rfl (lv_at hl 1 rfl) ?_
    refine lv_aload_n hx hb dX4_reaches_18 rfl (lv_at hl 2 rfl) ?_
    refine lv_iload_n hx hb dX4_reaches_19 rfl (lv_at hl 3 rfl) ?_
    refine lv_iload_n hx hb dX4_reaches_20 rfl (lv_at hl 4 rfl) ?_
    refine lv_iload hx hb dX4_reaches_21 (lv_at hl 5 rfl) ?_
    obtain ⟨r_2, hr_2, h⟩ := bd_ex h
    refine ro_i (va_runS (As := [.ref (q 1), .ref (q 2), .int x2, .int x3, .int x4]) (rest := []) ⟨hx, hb, hml, hown, hts⟩ (kX4_canLeave l G q C x2 x3 x4 r_2 hr_2) (va_cwS 5 hts gX4_reaches_X4_canLeave rfl rfl rfl (by decide +kernel) ⟨by simp only [rmX4_reaches, rmX4_canLeave]; omega, by simp only [rmX4_reaches, rmX4_canLeave]; omega⟩) (roS hP hK) rfl rfl hl.1 rfl (lv_room (Nat.le_of_ble_eq_true rfl)) dX4_reaches_23 ⟨Nat.zero_le _, Nat.zero_le _⟩) ?_
    refine lv_if_eq (tgt := 45) hx hb dX4_reaches_26 (by decide) (fun c_26 => ?_) (fun c_26 => ?_)
    · have h := br_T h c_26
      exact wX4_reaches_45 hself bx hP hK x2 x3 x4 x5 v_1 h _ (lv_sub hl [1, 2, 3, 4, 5, 6, 0] rfl)
    · have h := br_F h c_26
      refine lv_aload_n hx hb dX4_reaches_29 rfl (lv_at hl 1 rfl) ?_
      refine lv_aload_n hx hb dX4_reaches_30 rfl (lv_at hl 2 rfl) ?_
      refine lv_iload_n hx hb dX4_reaches_31 rfl (lv_at hl 3 rfl) ?_
      refine lv_iconst (v := 1) hx hb dX4_reaches_32 (by decide) ?_
      refine lv_iadd hx hb dX4_reaches_33 ?_
      refine lv_iload_n hx hb dX4_reaches_34 rfl (lv_at hl 4 rfl) ?_
      refine lv_iload hx hb dX4_reaches_35 (lv_at hl 5 rfl) ?_
      refine lv_iload hx hb dX4_reaches_37 (lv_at hl 6 rfl) ?_
      obtain ⟨r_5, hr_5, h⟩ := bd_ex h
      refine ro_i (va_runS (As := [.ref (q 1), .ref (q 2), .int (x2 + 1), .int x3, .int x4, .int x5]) (rest := []) ⟨hx, hb, hml, hown, hts⟩ (hself (x2 + 1) x3 x4 x5 r_5 hr_5) (va_cwS 6 hts gX4_reaches_X4_reaches rfl rfl rfl (by decide +kernel) ⟨by simp only [rmX4_reaches]; omega, by simp only [rmX4_reaches]; omega⟩) (roS hP hK) rfl rfl hl.1 rfl (lv_room (Nat.le_of_ble_eq_true rfl)) dX4_reaches_39 ⟨Nat.zero_le _, Nat.zero_le _⟩) ?_
      refine lv_if_ne (tgt := 74) hx hb dX4_reaches_42 (by decide) (fun c_42 => ?_) (fun c_42 => ?_)
      · have h := br_F h c_42
        refine lv_iconst (v := 1) hx hb dX4_reaches_74 (by decide) ?_
        refine lv_goto (tgt := 79) hx hb dX4_reaches_75 (by decide) ?_
        exact GoI.end hx hb hr hlocks dX4_reaches_79 rfl h
      · have h := br_T h c_42
        exact wX4_reaches_45 hself bx hP hK x2 x3 x4 x5 v_1 h _ (lv_sub hl [1, 2, 3, 4, 5, 6, 0] rfl)
  · have h := br_F h c_5
    refine lv_iconst (v := 1) hx hb dX4_reaches_8 (by decide) ?_
    exact GoI.end hx hb hr hlocks dX4_reaches_9 rfl h

theorem kX4_reaches (l : Launch) : ∀ (d : Nat) (G : GT) (q : Nat → Nat) (C : St) (x2 : Int32) (x3 : Int32) (x4 : Int32) (x5 : Int32) (r : Int32), pX4_reaches d C x2 x3 x4 x5 = some r → Met l yX4_reaches wsX4_reaches (rmX4_reaches d) (va_Pc [.ref (q 1), .ref (q 2), .int x2, .int x3, .int x4, .int x5] (roP G (CW G q C))) (vp_Si (fun v => v = r)) 0 0 (fun _ => False) := by
  intro d
  induction d with
  | zero => intro G q C _ _ _ _ r h; cases h
  | succ d ih => exact fun G q C a0 a1 a2 a3 r h => kX4_reaches_e l d G q C (fun b0 b1 b2 b3 r h => ih G q C b0 b1 b2 b3 r h) a0 a1 a2 a3 r h

def rmX4_countFrom (d : Nat) : Room := { frames := d + 3, cells := 0, slots := 0, locals := 27 * d + 70 }

theorem in_wsX4_countFrom_X5 : ∀ w ∈ u_ws RX5 TX5 6, w ∈ wsX4_countFrom := by decide +kernel

set_option maxHeartbeats 4000000 in
set_option maxRecDepth 100000 in
theorem wX4_countFrom_43 {p : Program} {l : Launch} {e : Env} {s : State} {m : MethodId} {args : Array Value} {below : List Frame} {meth : Method} {c : Code} {G : GT} {q : Nat → Nat} {C : St} {d : Nat} {self : St → Int32 → Int32 → Int32 → Int32 → Option (Int64)} (hself : ∀ (x2 : Int32) (x3 : Int32) (x4 : Int32) (x5 : Int32) (r : Int64), self C x2 x3 x4 x5 = some r → Met l yX4_countFrom wsX4_countFrom (rmX4_countFrom d) (va_Pc [.ref (q 1), .ref (q 2), .int x2, .int x3, .int x4, .int x5] (roP G (CW G q C))) (vp_Sl (fun v => v = r)) 0 0 (fun _ => False)) {out : Int64} (bx : BX p RX4 wsX4_countFrom cX4_countFrom 8 (some .long) s m args meth c) (hP : va_P G.1 vwCl (CW G q C) s.heap) (hK : CK G s) (x2 : Int32) (x3 : Int32) (x4 : Int32) (x5 : Int32) (x6 : Int64) (h : pX4_countFrom_43 self C x2 x3 x4 x5 x6 = some out) (ls : Array Slot) (hl : lv_has ls 8 [(0, .ref (q 1)), (1, .ref (q 2)), (2, .int x2), (3, .int x3), (4, .int x4), (5, .int x5), (6, .long x6)]) : GoL p l e (rmX4_countFrom (d + 1)) s m args below meth c out (F0 m 43 ls []) := by
  obtain ⟨hx, hb, hr, hts, hown, hml, hlocks⟩ := id bx
  unfold pX4_countFrom_43 at h
  refine lv_aload_n hx hb dX4_countFrom_43 rfl (lv_at hl 0 rfl) ?_
  refine lv_aload_n hx hb dX4_countFrom_44 rfl (lv_at hl 1 rfl) ?_
  refine lv_iload_n hx hb dX4_countFrom_45 rfl (lv_at hl 2 rfl) ?_
  refine lv_iload_n hx hb dX4_countFrom_46 rfl (lv_at hl 3 rfl) ?_
  refine lv_iload hx hb dX4_countFrom_47 (lv_at hl 5 rfl) ?_
  obtain ⟨r_2, hr_2, h⟩ := bd_ex h
  refine ro_i (va_runS (As := [.ref (q 1), .ref (q 2), .int x2, .int x3, .int x5]) (rest := []) ⟨hx, hb, hml, hown, hts⟩ (kX4_canTake l G q C x2 x3 x5 r_2 hr_2) (va_cwS 5 hts gX4_countFrom_X4_canTake rfl rfl rfl (by decide +kernel) ⟨by simp only [rmX4_countFrom, rmX4_canTake]; omega, by simp only [rmX4_countFrom, rmX4_canTake]; omega⟩) (roS hP hK) rfl rfl hl.1 rfl (lv_room (Nat.le_of_ble_eq_true rfl)) dX4_countFrom_49 ⟨Nat.zero_le _, Nat.zero_le _⟩) ?_
  refine lv_if_eq (tgt := 77) hx hb dX4_countFrom_52 (by decide) (fun c_52 => ?_) (fun c_52 => ?_)
  · have h := br_T h c_52
    refine lv_lload hx hb dX4_countFrom_77 (lv_at hl 6 rfl) ?_
    exact GoL.end hx hb hr hlocks dX4_countFrom_79 h
  · have h := br_F h c_52
    refine lv_lload hx hb dX4_countFrom_55 (lv_at hl 6 rfl) ?_
    refine lv_aload_n hx hb dX4_countFrom_57 rfl (lv_at hl 0 rfl) ?_
    refine lv_aload_n hx hb dX4_countFrom_58 rfl (lv_at hl 1 rfl) ?_
    refine lv_iload_n hx hb dX4_countFrom_59 rfl (lv_at hl 2 rfl) ?_
    refine lv_iconst (v := 1) hx hb dX4_countFrom_60 (by decide) ?_
    refine lv_iadd hx hb dX4_countFrom_61 ?_
    refine lv_iload_n hx hb dX4_countFrom_62 rfl (lv_at hl 3 rfl) ?_
    refine lv_iconst (v := 1) hx hb dX4_countFrom_63 (by decide) ?_
    refine lv_iload_n hx hb dX4_countFrom_64 rfl (lv_at hl 2 rfl) ?_
    refine lv_ishl hx hb dX4_countFrom_65 ?_
    refine lv_ior hx hb dX4_countFrom_66 ?_
    refine lv_iload hx hb dX4_countFrom_67 (lv_at hl 4 rfl) ?_
    refine lv_iload hx hb dX4_countFrom_69 (lv_at hl 5 rfl) ?_
    obtain ⟨r_3, hr_3, h⟩ := bd_ex h
    refine ro_l (va_runS (As := [.ref (q 1), .ref (q 2), .int (x2 + 1), .int (x3 ||| ((1 : Int32) <<< (x2 &&& 31))), .int x4, .int x5]) (rest := [.long x6]) ⟨hx, hb, hml, hown, hts⟩ (hself (x2 + 1) (x3 ||| ((1 : Int32) <<< (x2 &&& 31))) x4 x5 r_3 hr_3) (va_cwS 6 hts gX4_countFrom_X4_countFrom rfl rfl rfl (by decide +kernel) ⟨by simp only [rmX4_countFrom]; omega, by simp only [rmX4_countFrom]; omega⟩) (roS hP hK) rfl rfl hl.1 rfl (lv_room (Nat.le_of_ble_eq_true rfl)) dX4_countFrom_71 ⟨Nat.zero_le _, Nat.zero_le _⟩) ?_
    refine lv_ladd hx hb dX4_countFrom_74 ?_
    refine lv_topl (fun v_4 ev_4 => ?_)
    have h := ltv_at h v_4 ev_4
    refine lv_lstore (lv' := [(6, .long v_4), (0, .ref (q 1)), (1, .ref (q 2)), (2, .int x2), (3, .int x3), (4, .int x4), (5, .int x5)]) hx hb dX4_countFrom_75 hl (by decide) rfl (fun ls hl => ?_)
    refine lv_lload hx hb dX4_countFrom_77 (lv_at hl 0 rfl) ?_
    exact GoL.end hx hb hr hlocks dX4_countFrom_79 h

set_option maxHeartbeats 4000000 in
set_option maxRecDepth 100000 in
theorem kX4_countFrom_e (l : Launch) (d : Nat) (G : GT) (q : Nat → Nat) (C : St) {self : St → Int32 → Int32 → Int32 → Int32 → Option (Int64)} (hself : ∀ (x2 : Int32) (x3 : Int32) (x4 : Int32) (x5 : Int32) (r : Int64), self C x2 x3 x4 x5 = some r → Met l yX4_countFrom wsX4_countFrom (rmX4_countFrom d) (va_Pc [.ref (q 1), .ref (q 2), .int x2, .int x3, .int x4, .int x5] (roP G (CW G q C))) (vp_Sl (fun v => v = r)) 0 0 (fun _ => False)) (x2 : Int32) (x3 : Int32) (x4 : Int32) (x5 : Int32) (r : Int64) (h : pX4_countFrom_e self C x2 x3 x4 x5 = some r) : Met l yX4_countFrom wsX4_countFrom (rmX4_countFrom (d + 1)) (va_Pc [.ref (q 1), .ref (q 2), .int x2, .int x3, .int x4, .int x5] (roP G (CW G q C))) (vp_Sl (fun v => v = r)) 0 0 (fun _ => False) := by
  refine Met.ofW (cc := cX4_countFrom) (maxL := 8) (ret := (some .long)) (by decide) rfl ?_
  intro p e s m args below meth c s₁ B hml hv
  obtain ⟨rfl, hP, hK⟩ := hv
  have bx := bx_of B hml
  obtain ⟨hx, hb, hr, hts, hown, hml, hlocks⟩ := id bx
  have hl := lv_entry ([.ref (q 1), .ref (q 2), .int x2, .int x3, .int x4, .int x5]) (n := 8) (Nat.le_of_ble_eq_true rfl)
  rw [lg_entry_eq]
  generalize (lg_sl ([.ref (q 1), .ref (q 2), .int x2, .int x3, .int x4, .int x5]) ++ List.replicate (8 - (lg_sl ([.ref (q 1), .ref (q 2), .int x2, .int x3, .int x4, .int x5])).length) Slot.unset).toArray = ls at hl ⊢
  have hl : lv_has ls 8 [(0, .ref (q 1)), (1, .ref (q 2)), (2, .int x2), (3, .int x3), (4, .int x4), (5, .int x5)] := hl
  show GoL p l e (rmX4_countFrom (d + 1)) s m _ below meth c r (F0 m 0 ls [])
  unfold pX4_countFrom_e at h
  refine lv_iload_n hx hb dX4_countFrom_0 rfl (lv_at hl 2 rfl) ?_
  refine lv_aload_n hx hb dX4_countFrom_1 rfl (lv_at hl 0 rfl) ?_
  refine va_getN (D := G.1) (ci := 4) (v := .int (C.1 3)) (C := RX5) (T := TX5) (N := 6) hx hb hts in_wsX4_countFrom_X5 hown hK.1 hP 1 rfl rfl 5 (by decide) (hK.2.at 39 rfl) (fun _ h9 => h9) rfl dX4_countFrom_2 ?_
  refine lv_icmp_lt (tgt := 10) hx hb dX4_countFrom_5 (by decide) (fun c_5 => ?_) (fun c_5 => ?_)
  · have h := br_T h c_5
    refine lv_lconst (v := 0) hx hb dX4_countFrom_10 (by decide) ?_
    refine lv_lstore (lv' := [(6, .long 0), (0, .ref (q 1)), (1, .ref (q 2)), (2, .int x2), (3, .int x3), (4, .int x4), (5, .int x5)]) hx hb dX4_countFrom_11 hl (by decide) rfl (fun ls hl => ?_)
    refine lv_aload_n hx hb dX4_countFrom_13 rfl (lv_at hl 1 rfl) ?_
    refine lv_aload_n hx hb dX4_countFrom_14 rfl (lv_at hl 2 rfl) ?_
    refine lv_iload_n hx hb dX4_countFrom_15 rfl (lv_at hl 3 rfl) ?_
    refine lv_iload_n hx hb dX4_countFrom_16 rfl (lv_at hl 4 rfl) ?_
    refine lv_iload hx hb dX4_countFrom_17 (lv_at hl 5 rfl) ?_
    obtain ⟨r_1, hr_1, h⟩ := bd_ex h
    refine ro_i (va_runS (As := [.ref (q 1), .ref (q 2), .int x2, .int x3, .int x4]) (rest := []) ⟨hx, hb, hml, hown, hts⟩ (kX4_canLeave l G q C x2 x3 x4 r_1 hr_1) (va_cwS 5 hts gX4_countFrom_X4_canLeave rfl rfl rfl (by decide +kernel) ⟨by simp only [rmX4_countFrom, rmX4_canLeave]; omega, by simp only [rmX4_countFrom, rmX4_canLeave]; omega⟩) (roS hP hK) rfl rfl hl.1 rfl (lv_room (Nat.le_of_ble_eq_true rfl)) dX4_countFrom_19 ⟨Nat.zero_le _, Nat.zero_le _⟩) ?_
    refine lv_if_eq (tgt := 43) hx hb dX4_countFrom_22 (by decide) (fun c_22 => ?_) (fun c_22 => ?_)
    · have h := br_T h c_22
      exact wX4_countFrom_43 hself bx hP hK x2 x3 x4 x5 0 h _ (lv_sub hl [1, 2, 3, 4, 5, 6, 0] rfl)
    · have h := br_F h c_22
      refine lv_lload hx hb dX4_countFrom_25 (lv_at hl 0 rfl) ?_
      refine lv_aload_n hx hb dX4_countFrom_27 rfl (lv_at hl 1 rfl) ?_
      refine lv_aload_n hx hb dX4_countFrom_28 rfl (lv_at hl 2 rfl) ?_
      refine lv_iload_n hx hb dX4_countFrom_29 rfl (lv_at hl 3 rfl) ?_
      refine lv_iconst (v := 1) hx hb dX4_countFrom_30 (by decide) ?_
      refine lv_iadd hx hb dX4_countFrom_31 ?_
      refine lv_iload_n hx hb dX4_countFrom_32 rfl (lv_at hl 4 rfl) ?_
      refine lv_iload hx hb dX4_countFrom_33 (lv_at hl 5 rfl) ?_
      refine lv_iload hx hb dX4_countFrom_35 (lv_at hl 6 rfl) ?_
      obtain ⟨r_5, hr_5, h⟩ := bd_ex h
      refine ro_l (va_runS (As := [.ref (q 1), .ref (q 2), .int (x2 + 1), .int x3, .int x4, .int x5]) (rest := [.long 0]) ⟨hx, hb, hml, hown, hts⟩ (hself (x2 + 1) x3 x4 x5 r_5 hr_5) (va_cwS 6 hts gX4_countFrom_X4_countFrom rfl rfl rfl (by decide +kernel) ⟨by simp only [rmX4_countFrom]; omega, by simp only [rmX4_countFrom]; omega⟩) (roS hP hK) rfl rfl hl.1 rfl (lv_room (Nat.le_of_ble_eq_true rfl)) dX4_countFrom_37 ⟨Nat.zero_le _, Nat.zero_le _⟩) ?_
      refine lv_ladd hx hb dX4_countFrom_40 ?_
      refine lv_topl (fun v_6 ev_6 => ?_)
      have h := ltv_at h v_6 ev_6
      refine lv_lstore (lv' := [(6, .long v_6), (0, .ref (q 1)), (1, .ref (q 2)), (2, .int x2), (3, .int x3), (4, .int x4), (5, .int x5)]) hx hb dX4_countFrom_41 hl (by decide) rfl (fun ls hl => ?_)
      exact wX4_countFrom_43 hself bx hP hK x2 x3 x4 x5 v_6 h _ (lv_sub hl [1, 2, 3, 4, 5, 6, 0] rfl)
  · have h := br_F h c_5
    refine lv_lconst (v := 1) hx hb dX4_countFrom_8 (by decide) ?_
    exact GoL.end hx hb hr hlocks dX4_countFrom_9 h

theorem kX4_countFrom (l : Launch) : ∀ (d : Nat) (G : GT) (q : Nat → Nat) (C : St) (x2 : Int32) (x3 : Int32) (x4 : Int32) (x5 : Int32) (r : Int64), pX4_countFrom d C x2 x3 x4 x5 = some r → Met l yX4_countFrom wsX4_countFrom (rmX4_countFrom d) (va_Pc [.ref (q 1), .ref (q 2), .int x2, .int x3, .int x4, .int x5] (roP G (CW G q C))) (vp_Sl (fun v => v = r)) 0 0 (fun _ => False) := by
  intro d
  induction d with
  | zero => intro G q C _ _ _ _ r h; cases h
  | succ d ih => exact fun G q C a0 a1 a2 a3 r h => kX4_countFrom_e l d G q C (fun b0 b1 b2 b3 r h => ih G q C b0 b1 b2 b3 r h) a0 a1 a2 a3 r h
