def rmX2_sumOf : Room := { frames := 1, cells := 0, slots := 0, locals := 21 }

theorem in_wsX2_sumOf_X2 : ∀ w ∈ u_ws RX2 TX2 5, w ∈ wsX2_sumOf := by decide +kernel

set_option maxHeartbeats 4000000 in
set_option maxRecDepth 100000 in
theorem wX2_sumOf_27 {p : Program} {l : Launch} {e : Env} {s : State} {m : MethodId} {args : Array Value} {below : List Frame} {meth : Method} {c : Code} {G : GT} {q : Nat → Nat} {C : St} {out : Int32} (bx : BX p RX2 wsX2_sumOf cX2_sumOf 4 (some .int) s m args meth c) (hP : va_P G.1 vwCl (CW G q C) s.heap) (hK : CK G s) {k4 : St → Int32 → Int32 → Int32 → Option (Int32)} (hk4 : ∀ (x1 : Int32) (x2 : Int32) (x3 : Int32), k4 C x1 x2 x3 = some out → ∀ (ls : Array Slot), lv_has ls 4 [(0, .ref (q 3)), (1, .int x1), (2, .int x2), (3, .int x3)] → GoI p l e rmX2_sumOf s m args below meth c out (F0 m 4 ls [])) (x1 : Int32) (x2 : Int32) (x3 : Int32) (h : pX2_sumOf_27 k4 C x1 x2 x3 = some out) (ls : Array Slot) (hl : lv_has ls 4 [(0, .ref (q 3)), (1, .int x1), (2, .int x2), (3, .int x3)]) : GoI p l e rmX2_sumOf s m args below meth c out (F0 m 27 ls []) := by
  obtain ⟨hx, hb, hr, hts, hown, hml, hlocks⟩ := id bx
  unfold pX2_sumOf_27 at h
  obtain ⟨v_2, ev_2, h⟩ := ltv_ex h
  refine lv_iinc (v := v_2) (lv' := [(3, .int v_2), (0, .ref (q 3)), (1, .int x1), (2, .int x2)]) hx hb dX2_sumOf_27 hl (k := 3) rfl (by rw [ev_2]; rfl) (by decide) rfl (fun ls hl => ?_)
  refine lv_goto (tgt := 4) hx hb dX2_sumOf_30 (by decide) ?_
  exact hk4 x1 x2 v_2 h _ (lv_sub hl [1, 2, 3, 0] rfl)

set_option maxHeartbeats 4000000 in
set_option maxRecDepth 100000 in
theorem wX2_sumOf_4_b {p : Program} {l : Launch} {e : Env} {s : State} {m : MethodId} {args : Array Value} {below : List Frame} {meth : Method} {c : Code} {G : GT} {q : Nat → Nat} {C : St} {out : Int32} (bx : BX p RX2 wsX2_sumOf cX2_sumOf 4 (some .int) s m args meth c) (hP : va_P G.1 vwCl (CW G q C) s.heap) (hK : CK G s) {k4 : St → Int32 → Int32 → Int32 → Option (Int32)} (hk4 : ∀ (x1 : Int32) (x2 : Int32) (x3 : Int32), k4 C x1 x2 x3 = some out → ∀ (ls : Array Slot), lv_has ls 4 [(0, .ref (q 3)), (1, .int x1), (2, .int x2), (3, .int x3)] → GoI p l e rmX2_sumOf s m args below meth c out (F0 m 4 ls [])) (x1 : Int32) (x2 : Int32) (x3 : Int32) (h : pX2_sumOf_4_b k4 C x1 x2 x3 = some out) (ls : Array Slot) (hl : lv_has ls 4 [(0, .ref (q 3)), (1, .int x1), (2, .int x2), (3, .int x3)]) : GoI p l e rmX2_sumOf s m args below meth c out (F0 m 4 ls []) := by
  obtain ⟨hx, hb, hr, hts, hown, hml, hlocks⟩ := id bx
  unfold pX2_sumOf_4_b at h
  refine lv_iload_n hx hb dX2_sumOf_4 rfl (lv_at hl 3 rfl) ?_
  refine lv_bipush (v := 12) hx hb dX2_sumOf_5 (by decide) ?_
  refine lv_icmp_ge (tgt := 33) hx hb dX2_sumOf_7 (by decide) (fun c_7 => ?_) (fun c_7 => ?_)
  · have h := br_T h c_7
    refine lv_iload_n hx hb dX2_sumOf_33 rfl (lv_at hl 2 rfl) ?_
    exact GoI.end hx hb hr hlocks dX2_sumOf_34 rfl h
  · have h := br_F h c_7
    refine lv_iload_n hx hb dX2_sumOf_10 rfl (lv_at hl 1 rfl) ?_
    refine lv_iload_n hx hb dX2_sumOf_11 rfl (lv_at hl 3 rfl) ?_
    obtain ⟨r_1, hr_1, h⟩ := bd_ex h
    refine ro_i (va_runSN (As := [.int x1, .int x3]) (rest := []) ⟨hx, hb, hml, hown, hts⟩ (kX6_has l G q C x1 x3 r_1 hr_1) ⟨va_cnB 2 hts gX2_sumOf_X6_has_n36 rfl rfl rfl (hK.2.nw 25 rfl) (w_mem hts 3 rfl) (by decide +kernel) ⟨Nat.le_of_ble_eq_true rfl, Nat.le_of_ble_eq_true rfl⟩, (w_mem hts 2 rfl), trivial⟩ (roS hP hK) rfl rfl hl.1 rfl (lv_room (Nat.le_of_ble_eq_true rfl)) dX2_sumOf_12 ⟨Nat.zero_le _, Nat.zero_le _⟩) ?_
    refine lv_if_eq (tgt := 27) hx hb dX2_sumOf_15 (by decide) (fun c_15 => ?_) (fun c_15 => ?_)
    · have h := br_T h c_15
      exact wX2_sumOf_27 bx hP hK hk4 x1 x2 x3 h _ (lv_sub hl [0, 1, 2, 3] rfl)
    · have h := br_F h c_15
      refine lv_iload_n hx hb dX2_sumOf_18 rfl (lv_at hl 2 rfl) ?_
      refine lv_aload_n hx hb dX2_sumOf_19 rfl (lv_at hl 0 rfl) ?_
      refine va_get (D := G.1) (ci := 4) (v := .ref (q 13)) (C := RX2) (T := TX2) (N := 5) hx hb hts in_wsX2_sumOf_X2 hown hK.1 hP 3 rfl rfl 0 (by decide) (w_mem hts 1 rfl) (fun _ h9 => h9) rfl dX2_sumOf_20 ?_
      refine lv_iload_n hx hb dX2_sumOf_23 rfl (lv_at hl 3 rfl) ?_
      obtain ⟨g24, h⟩ := gd_ex h
      refine va_iald (D := G.1) hx hb hK.1 hP 13 0 rfl rfl g24 dX2_sumOf_24 ?_
      refine lv_iadd hx hb dX2_sumOf_25 ?_
      refine lv_topi (fun v_3 ev_3 => ?_)
      have h := ltv_at h v_3 ev_3
      refine lv_istore_n (lv' := [(2, .int v_3), (0, .ref (q 3)), (1, .int x1), (3, .int x3)]) hx hb dX2_sumOf_26 rfl hl (by decide) rfl (fun ls hl => ?_)
      exact wX2_sumOf_27 bx hP hK hk4 x1 v_3 x3 h _ (lv_sub hl [1, 2, 0, 3] rfl)

theorem wX2_sumOf_4 {p : Program} {l : Launch} {e : Env} {s : State} {m : MethodId} {args : Array Value} {below : List Frame} {meth : Method} {c : Code} {G : GT} {q : Nat → Nat} {C : St} {out : Int32} (bx : BX p RX2 wsX2_sumOf cX2_sumOf 4 (some .int) s m args meth c) (hP : va_P G.1 vwCl (CW G q C) s.heap) (hK : CK G s) :
    ∀ (n : Nat) (x1 : Int32) (x2 : Int32) (x3 : Int32), pX2_sumOf_4 n C x1 x2 x3 = some out → ∀ (ls : Array Slot), lv_has ls 4 [(0, .ref (q 3)), (1, .int x1), (2, .int x2), (3, .int x3)] → GoI p l e rmX2_sumOf s m args below meth c out (F0 m 4 ls []) := by
  intro n
  induction n with
  | zero => intro _ _ _ h; cases h
  | succ n ih => exact fun a0 a1 a2 h ls hl => wX2_sumOf_4_b bx hP hK ih a0 a1 a2 h ls hl

set_option maxHeartbeats 4000000 in
set_option maxRecDepth 100000 in
theorem kX2_sumOf (l : Launch) (G : GT) (q : Nat → Nat) (C : St) (x1 : Int32) (r : Int32) (h : pX2_sumOf C x1 = some r) : Met l yX2_sumOf wsX2_sumOf rmX2_sumOf (va_Pc [.ref (q 3), .int x1] (roP G (CW G q C))) (vp_Si (fun v => v = r)) 0 0 (fun _ => False) := by
  refine Met.ofW (cc := cX2_sumOf) (maxL := 4) (ret := (some .int)) (by decide) rfl ?_
  intro p e s m args below meth c s₁ B hml hv
  obtain ⟨rfl, hP, hK⟩ := hv
  have bx := bx_of B hml
  obtain ⟨hx, hb, hr, hts, hown, hml, hlocks⟩ := id bx
  have hl := lv_entry ([.ref (q 3), .int x1]) (n := 4) (Nat.le_of_ble_eq_true rfl)
  rw [lg_entry_eq]
  generalize (lg_sl ([.ref (q 3), .int x1]) ++ List.replicate (4 - (lg_sl ([.ref (q 3), .int x1])).length) Slot.unset).toArray = ls at hl ⊢
  have hl : lv_has ls 4 [(0, .ref (q 3)), (1, .int x1)] := hl
  show GoI p l e rmX2_sumOf s m _ below meth c r (F0 m 0 ls [])
  unfold pX2_sumOf at h
  refine lv_iconst (v := 0) hx hb dX2_sumOf_0 (by decide) ?_
  refine lv_istore_n (lv' := [(2, .int 0), (0, .ref (q 3)), (1, .int x1)]) hx hb dX2_sumOf_1 rfl hl (by decide) rfl (fun ls hl => ?_)
  refine lv_iconst (v := 0) hx hb dX2_sumOf_2 (by decide) ?_
  refine lv_istore_n (lv' := [(3, .int 0), (2, .int 0), (0, .ref (q 3)), (1, .int x1)]) hx hb dX2_sumOf_3 rfl hl (by decide) rfl (fun ls hl => ?_)
  exact wX2_sumOf_4 bx hP hK FU x1 0 0 h _ (lv_sub hl [2, 3, 1, 0] rfl)

def rmX2_answerOf : Room := { frames := 1, cells := 0, slots := 0, locals := 40 }

theorem in_wsX2_answerOf_X2 : ∀ w ∈ u_ws RX2 TX2 5, w ∈ wsX2_answerOf := by decide +kernel

set_option maxHeartbeats 4000000 in
set_option maxRecDepth 100000 in
theorem kX2_answerOf (l : Launch) (G : GT) (q : Nat → Nat) (C : St) (x1 : Int32) (x2 : Int32) (x3 : Int32) (r : Int32) (h : pX2_answerOf C x1 x2 x3 = some r) : Met l yX2_answerOf wsX2_answerOf rmX2_answerOf (va_Pc [.ref (q 3), .int x1, .int x2, .int x3] (roP G (CW G q C))) (vp_Si (fun v => v = r)) 0 0 (fun _ => False) := by
  refine Met.ofW (cc := cX2_answerOf) (maxL := 6) (ret := (some .int)) (by decide) rfl ?_
  intro p e s m args below meth c s₁ B hml hv
  obtain ⟨rfl, hP, hK⟩ := hv
  have bx := bx_of B hml
  obtain ⟨hx, hb, hr, hts, hown, hml, hlocks⟩ := id bx
  have hl := lv_entry ([.ref (q 3), .int x1, .int x2, .int x3]) (n := 6) (Nat.le_of_ble_eq_true rfl)
  rw [lg_entry_eq]
  generalize (lg_sl ([.ref (q 3), .int x1, .int x2, .int x3]) ++ List.replicate (6 - (lg_sl ([.ref (q 3), .int x1, .int x2, .int x3])).length) Slot.unset).toArray = ls at hl ⊢
  have hl : lv_has ls 6 [(0, .ref (q 3)), (1, .int x1), (2, .int x2), (3, .int x3)] := hl
  show GoI p l e rmX2_answerOf s m _ below meth c r (F0 m 0 ls [])
  unfold pX2_answerOf at h
  refine lv_aload_n hx hb dX2_answerOf_0 rfl (lv_at hl 0 rfl) ?_
  refine va_get (D := G.1) (ci := 4) (v := .ref (q 15)) (C := RX2) (T := TX2) (N := 5) hx hb hts in_wsX2_answerOf_X2 hown hK.1 hP 3 rfl rfl 2 (by decide) (w_mem hts 1 rfl) (fun _ h9 => h9) rfl dX2_answerOf_1 ?_
  refine lv_iload_n hx hb dX2_answerOf_4 rfl (lv_at hl 1 rfl) ?_
  obtain ⟨g5, h⟩ := gd_ex h
  refine va_iald (D := G.1) hx hb hK.1 hP 15 0 rfl rfl g5 dX2_answerOf_5 ?_
  refine lv_topi (fun v_1 ev_1 => ?_)
  have h := ltv_at h v_1 ev_1
  refine lv_istore (lv' := [(4, .int v_1), (0, .ref (q 3)), (1, .int x1), (2, .int x2), (3, .int x3)]) hx hb dX2_answerOf_6 hl (by decide) rfl (fun ls hl => ?_)
  refine lv_aload_n hx hb dX2_answerOf_8 rfl (lv_at hl 1 rfl) ?_
  refine va_get (D := G.1) (ci := 4) (v := .ref (q 16)) (C := RX2) (T := TX2) (N := 5) hx hb hts in_wsX2_answerOf_X2 hown hK.1 hP 3 rfl rfl 3 (by decide) (w_mem hts 2 rfl) (fun _ h9 => h9) rfl dX2_answerOf_9 ?_
  refine lv_iload_n hx hb dX2_answerOf_12 rfl (lv_at hl 2 rfl) ?_
  obtain ⟨g13, h⟩ := gd_ex h
  refine va_iald (D := G.1) hx hb hK.1 hP 16 0 rfl rfl g13 dX2_answerOf_13 ?_
  refine lv_topi (fun v_2 ev_2 => ?_)
  have h := ltv_at h v_2 ev_2
  refine lv_istore (lv' := [(5, .int v_2), (4, .int v_1), (0, .ref (q 3)), (1, .int x1), (2, .int x2), (3, .int x3)]) hx hb dX2_answerOf_14 hl (by decide) rfl (fun ls hl => ?_)
  refine lv_aload_n hx hb dX2_answerOf_16 rfl (lv_at hl 2 rfl) ?_
  refine va_get (D := G.1) (ci := 4) (v := .ref (q 14)) (C := RX2) (T := TX2) (N := 5) hx hb hts in_wsX2_answerOf_X2 hown hK.1 hP 3 rfl rfl 1 (by decide) (w_mem hts 3 rfl) (fun _ h9 => h9) rfl dX2_answerOf_17 ?_
  refine lv_iload_n hx hb dX2_answerOf_20 rfl (lv_at hl 3 rfl) ?_
  obtain ⟨g21, h⟩ := gd_ex h
  refine va_iald (D := G.1) hx hb hK.1 hP 14 0 rfl rfl g21 dX2_answerOf_21 ?_
  by_cases c_22_0 : (C.2 8 x1.toNatClampNeg) = 0
  · have h := br_T h c_22_0
    refine lv_lookup (tgt := 48) hx hb dX2_answerOf_22 (by decide) (off := 26) (by rw [c_22_0]; decide) (by decide) ?_
    refine lv_iload hx hb dX2_answerOf_48 (lv_at hl 1 rfl) ?_
    refine lv_iload_n hx hb dX2_answerOf_50 rfl (lv_at hl 4 rfl) ?_
    refine lv_iconst (v := (-1)) hx hb dX2_answerOf_51 (by decide) ?_
    refine lv_ixor hx hb dX2_answerOf_52 ?_
    refine lv_iand hx hb dX2_answerOf_53 ?_
    refine lv_if_ne (tgt := 64) hx hb dX2_answerOf_54 (by decide) (fun c_54 => ?_) (fun c_54 => ?_)
    · have h := br_F h c_54
      refine lv_iload_n hx hb dX2_answerOf_64 rfl (lv_at hl 5 rfl) ?_
      exact GoI.end hx hb hr hlocks dX2_answerOf_65 rfl h
    · have h := br_T h c_54
      refine lv_iload_n hx hb dX2_answerOf_57 rfl (lv_at hl 5 rfl) ?_
      refine lv_iload hx hb dX2_answerOf_58 (lv_at hl 0 rfl) ?_
      refine lv_isub hx hb dX2_answerOf_60 ?_
      refine lv_goto (tgt := 65) hx hb dX2_answerOf_61 (by decide) ?_
      exact GoI.end hx hb hr hlocks dX2_answerOf_65 rfl h
  · have h := br_F h c_22_0
    by_cases c_22_1 : (C.2 8 x1.toNatClampNeg) = 1
    · have h := br_T h c_22_1
      refine lv_lookup (tgt := 66) hx hb dX2_answerOf_22 (by decide) (off := 44) (by rw [c_22_1]; decide) (by decide) ?_
      refine lv_iload_n hx hb dX2_answerOf_66 rfl (lv_at hl 5 rfl) ?_
      refine lv_iload_n hx hb dX2_answerOf_67 rfl (lv_at hl 5 rfl) ?_
      refine lv_iload hx hb dX2_answerOf_68 (lv_at hl 0 rfl) ?_
      refine lv_imul hx hb dX2_answerOf_70 ?_
      refine lv_bipush (v := 100) hx hb dX2_answerOf_71 (by decide) ?_
      refine lv_idiv hx hb dX2_answerOf_73 (by decide) ?_
      refine lv_isub hx hb dX2_answerOf_74 ?_
      exact GoI.end hx hb hr hlocks dX2_answerOf_75 rfl h
    · have h := br_F h c_22_1
      refine lv_lookup (tgt := 76) hx hb dX2_answerOf_22 (by decide) (off := 54) (by show Op.lookupswitch.offset [(0, 26), (1, 44)] 54 (C.2 8 x1.toNatClampNeg).toInt = 54; rw [lv_osw c_22_0 (by decide), lv_osw c_22_1 (by decide)]; rfl) (by decide) ?_
      refine lv_iload_n hx hb dX2_answerOf_76 rfl (lv_at hl 5 rfl) ?_
      refine lv_iload hx hb dX2_answerOf_77 (lv_at hl 0 rfl) ?_
      refine lv_iconst (v := 0) hx hb dX2_answerOf_79 (by decide) ?_
      refine lv_iload_n hx hb dX2_answerOf_80 rfl (lv_at hl 4 rfl) ?_
      obtain ⟨r_3, hr_3, h⟩ := bd_ex h
      refine ro_i (va_runS (As := [.int x2]) (rest := [.int 0, .int v_2, .int x3]) ⟨hx, hb, hml, hown, hts⟩ (kJ6_bitCount_0f7a4 l x2 r_3 hr_3) (va_cwS 1 hts gX2_answerOf_J6_bitCount_0f7a4 rfl rfl rfl (by decide +kernel) ⟨Nat.le_of_ble_eq_true rfl, Nat.le_of_ble_eq_true rfl⟩) noS rfl rfl hl.1 rfl (lv_room (Nat.le_of_ble_eq_true rfl)) dX2_answerOf_81 ⟨Nat.zero_le _, Nat.zero_le _⟩) ?_
      refine lv_iload hx hb dX2_answerOf_84 (lv_at hl 1 rfl) ?_
      refine lv_isub hx hb dX2_answerOf_86 ?_
      refine va_mmax hx hb (hml.trans hl.1.symm) hown (w_mem hts 4 rfl) (w_mem hts 5 rfl) (w_mem hts 6 rfl) (w_mem hts 7 rfl) (Nat.le_of_ble_eq_true rfl) (Nat.le_of_ble_eq_true rfl) (Nat.zero_le _) (Nat.zero_le _) dX2_answerOf_87 ?_
      refine lv_imul hx hb dX2_answerOf_90 ?_
      refine lv_iadd hx hb dX2_answerOf_91 ?_
      exact GoI.end hx hb hr hlocks dX2_answerOf_92 rfl h

def rmX2_ofSet : Room := { frames := 2, cells := 0, slots := 0, locals := 65 }

theorem in_wsX2_ofSet_X2 : ∀ w ∈ u_ws RX2 TX2 5, w ∈ wsX2_ofSet := by decide +kernel

set_option maxHeartbeats 4000000 in
set_option maxRecDepth 100000 in
theorem wX2_ofSet_8_b {p : Program} {l : Launch} {e : Env} {s : State} {m : MethodId} {args : Array Value} {below : List Frame} {meth : Method} {c : Code} {G : GT} {q : Nat → Nat} {C : St} {out : Int32} (bx : BX p RX2 wsX2_ofSet cX2_ofSet 4 (some .int) s m args meth c) (hP : va_P G.1 vwCl (CW G q C) s.heap) (hK : CK G s) {k8 : St → Int32 → Int32 → Int32 → Option (Int32)} (hk8 : ∀ (x1 : Int32) (x2 : Int32) (x3 : Int32), k8 C x1 x2 x3 = some out → ∀ (ls : Array Slot), lv_has ls 4 [(0, .ref (q 3)), (1, .int x1), (2, .int x2), (3, .int x3)] → GoI p l e rmX2_ofSet s m args below meth c out (F0 m 8 ls [])) (x1 : Int32) (x2 : Int32) (x3 : Int32) (h : pX2_ofSet_8_b k8 C x1 x2 x3 = some out) (ls : Array Slot) (hl : lv_has ls 4 [(0, .ref (q 3)), (1, .int x1), (2, .int x2), (3, .int x3)]) : GoI p l e rmX2_ofSet s m args below meth c out (F0 m 8 ls []) := by
  obtain ⟨hx, hb, hr, hts, hown, hml, hlocks⟩ := id bx
  unfold pX2_ofSet_8_b at h
  refine lv_iload_n hx hb dX2_ofSet_8 rfl (lv_at hl 3 rfl) ?_
  refine lv_aload_n hx hb dX2_ofSet_9 rfl (lv_at hl 0 rfl) ?_
  refine va_get (D := G.1) (ci := 4) (v := .int (C.1 6)) (C := RX2) (T := TX2) (N := 5) hx hb hts in_wsX2_ofSet_X2 hown hK.1 hP 3 rfl rfl 4 (by decide) (w_mem hts 1 rfl) (fun _ h9 => h9) rfl dX2_ofSet_10 ?_
  refine lv_icmp_ge (tgt := 30) hx hb dX2_ofSet_13 (by decide) (fun c_13 => ?_) (fun c_13 => ?_)
  · have h := br_T h c_13
    refine lv_iload_n hx hb dX2_ofSet_30 rfl (lv_at hl 2 rfl) ?_
    exact GoI.end hx hb hr hlocks dX2_ofSet_31 rfl h
  · have h := br_F h c_13
    refine lv_aload_n hx hb dX2_ofSet_16 rfl (lv_at hl 0 rfl) ?_
    refine lv_iload_n hx hb dX2_ofSet_17 rfl (lv_at hl 3 rfl) ?_
    refine lv_iload_n hx hb dX2_ofSet_18 rfl (lv_at hl 1 rfl) ?_
    refine lv_iload_n hx hb dX2_ofSet_19 rfl (lv_at hl 2 rfl) ?_
    obtain ⟨r_2, hr_2, h⟩ := bd_ex h
    refine ro_i (va_runV (As := [.int x3, .int x1, .int x2]) (rest := []) ⟨hx, hb, hml, hown, hts⟩ (kX2_answerOf l G q C x3 x1 x2 r_2 hr_2) (cwV 3 hts gX2_ofSet_X2_answerOf rfl rfl rfl (by decide +kernel) ⟨Nat.le_of_ble_eq_true rfl, Nat.le_of_ble_eq_true rfl⟩) (roV hP hK 4 3 rfl rfl) rfl rfl hl.1 rfl (lv_room (Nat.le_of_ble_eq_true rfl)) dX2_ofSet_20 ⟨Nat.zero_le _, Nat.zero_le _⟩) ?_
    refine lv_istore_n (lv' := [(2, .int r_2), (0, .ref (q 3)), (1, .int x1), (3, .int x3)]) hx hb dX2_ofSet_23 rfl hl (by decide) rfl (fun ls hl => ?_)
    obtain ⟨v_3, ev_3, h⟩ := ltv_ex h
    refine lv_iinc (v := v_3) (lv' := [(3, .int v_3), (2, .int r_2), (0, .ref (q 3)), (1, .int x1)]) hx hb dX2_ofSet_24 hl (k := 3) rfl (by rw [ev_3]; rfl) (by decide) rfl (fun ls hl => ?_)
    refine lv_goto (tgt := 8) hx hb dX2_ofSet_27 (by decide) ?_
    exact hk8 x1 r_2 v_3 h _ (lv_sub hl [2, 3, 1, 0] rfl)

theorem wX2_ofSet_8 {p : Program} {l : Launch} {e : Env} {s : State} {m : MethodId} {args : Array Value} {below : List Frame} {meth : Method} {c : Code} {G : GT} {q : Nat → Nat} {C : St} {out : Int32} (bx : BX p RX2 wsX2_ofSet cX2_ofSet 4 (some .int) s m args meth c) (hP : va_P G.1 vwCl (CW G q C) s.heap) (hK : CK G s) :
    ∀ (n : Nat) (x1 : Int32) (x2 : Int32) (x3 : Int32), pX2_ofSet_8 n C x1 x2 x3 = some out → ∀ (ls : Array Slot), lv_has ls 4 [(0, .ref (q 3)), (1, .int x1), (2, .int x2), (3, .int x3)] → GoI p l e rmX2_ofSet s m args below meth c out (F0 m 8 ls []) := by
  intro n
  induction n with
  | zero => intro _ _ _ h; cases h
  | succ n ih => exact fun a0 a1 a2 h ls hl => wX2_ofSet_8_b bx hP hK ih a0 a1 a2 h ls hl

set_option maxHeartbeats 4000000 in
set_option maxRecDepth 100000 in
theorem kX2_ofSet (l : Launch) (G : GT) (q : Nat → Nat) (C : St) (x1 : Int32) (r : Int32) (h : pX2_ofSet C x1 = some r) : Met l yX2_ofSet wsX2_ofSet rmX2_ofSet (va_Pc [.ref (q 3), .int x1] (roP G (CW G q C))) (vp_Si (fun v => v = r)) 0 0 (fun _ => False) := by
  refine Met.ofW (cc := cX2_ofSet) (maxL := 4) (ret := (some .int)) (by decide) rfl ?_
  intro p e s m args below meth c s₁ B hml hv
  obtain ⟨rfl, hP, hK⟩ := hv
  have bx := bx_of B hml
  obtain ⟨hx, hb, hr, hts, hown, hml, hlocks⟩ := id bx
  have hl := lv_entry ([.ref (q 3), .int x1]) (n := 4) (Nat.le_of_ble_eq_true rfl)
  rw [lg_entry_eq]
  generalize (lg_sl ([.ref (q 3), .int x1]) ++ List.replicate (4 - (lg_sl ([.ref (q 3), .int x1])).length) Slot.unset).toArray = ls at hl ⊢
  have hl : lv_has ls 4 [(0, .ref (q 3)), (1, .int x1)] := hl
  show GoI p l e rmX2_ofSet s m _ below meth c r (F0 m 0 ls [])
  unfold pX2_ofSet at h
  refine lv_aload_n hx hb dX2_ofSet_0 rfl (lv_at hl 0 rfl) ?_
  refine lv_iload_n hx hb dX2_ofSet_1 rfl (lv_at hl 1 rfl) ?_
  obtain ⟨r_1, hr_1, h⟩ := bd_ex h
  refine ro_i (va_runV (As := [.int x1]) (rest := []) ⟨hx, hb, hml, hown, hts⟩ (kX2_sumOf l G q C x1 r_1 hr_1) (cwV 1 hts gX2_ofSet_X2_sumOf rfl rfl rfl (by decide +kernel) ⟨Nat.le_of_ble_eq_true rfl, Nat.le_of_ble_eq_true rfl⟩) (roV hP hK 4 3 rfl rfl) rfl rfl hl.1 rfl (lv_room (Nat.le_of_ble_eq_true rfl)) dX2_ofSet_2 ⟨Nat.zero_le _, Nat.zero_le _⟩) ?_
  refine lv_istore_n (lv' := [(2, .int r_1), (0, .ref (q 3)), (1, .int x1)]) hx hb dX2_ofSet_5 rfl hl (by decide) rfl (fun ls hl => ?_)
  refine lv_iconst (v := 0) hx hb dX2_ofSet_6 (by decide) ?_
  refine lv_istore_n (lv' := [(3, .int 0), (2, .int r_1), (0, .ref (q 3)), (1, .int x1)]) hx hb dX2_ofSet_7 rfl hl (by decide) rfl (fun ls hl => ?_)
  exact wX2_ofSet_8 bx hP hK FU x1 r_1 0 h _ (lv_sub hl [2, 3, 1, 0] rfl)

def rmX2_cheaperOf : Room := { frames := 3, cells := 0, slots := 0, locals := 88 }

set_option maxHeartbeats 4000000 in
set_option maxRecDepth 100000 in
theorem wX2_cheaperOf_8 {p : Program} {l : Launch} {e : Env} {s : State} {m : MethodId} {args : Array Value} {below : List Frame} {meth : Method} {c : Code} {G : GT} {q : Nat → Nat} {C : St} {out : Int32} (bx : BX p RX2 wsX2_cheaperOf cX2_cheaperOf 4 (some .int) s m args meth c) (hP : va_P G.1 vwCl (CW G q C) s.heap) (hK : CK G s) (x1 : Int32) (x2 : Int32) (h : pX2_cheaperOf_8 C x1 x2 = some out) (ls : Array Slot) (hl : lv_has ls 4 [(1, .int x1), (2, .int x2)]) : GoI p l e rmX2_cheaperOf s m args below meth c out (F0 m 8 ls []) := by
  obtain ⟨hx, hb, hr, hts, hown, hml, hlocks⟩ := id bx
  unfold pX2_cheaperOf_8 at h
  refine lv_iload_n hx hb dX2_cheaperOf_8 rfl (lv_at hl 0 rfl) ?_
  refine lv_iload_n hx hb dX2_cheaperOf_9 rfl (lv_at hl 1 rfl) ?_
  refine va_mmax hx hb (hml.trans hl.1.symm) hown (w_mem hts 1 rfl) (w_mem hts 2 rfl) (w_mem hts 3 rfl) (w_mem hts 4 rfl) (Nat.le_of_ble_eq_true rfl) (Nat.le_of_ble_eq_true rfl) (Nat.zero_le _) (Nat.zero_le _) dX2_cheaperOf_10 ?_
  exact GoI.end hx hb hr hlocks dX2_cheaperOf_13 rfl h

set_option maxHeartbeats 4000000 in
set_option maxRecDepth 100000 in
theorem wX2_cheaperOf_54 {p : Program} {l : Launch} {e : Env} {s : State} {m : MethodId} {args : Array Value} {below : List Frame} {meth : Method} {c : Code} {G : GT} {q : Nat → Nat} {C : St} {out : Int32} (bx : BX p RX2 wsX2_cheaperOf cX2_cheaperOf 4 (some .int) s m args meth c) (hP : va_P G.1 vwCl (CW G q C) s.heap) (hK : CK G s) (x1 : Int32) (x2 : Int32) (x3 : Int32) (h : pX2_cheaperOf_54 C x1 x2 x3 = some out) (ls : Array Slot) (hl : lv_has ls 4 [(1, .int x1), (2, .int x2), (3, .int x3)]) : GoI p l e rmX2_cheaperOf s m args below meth c out (F0 m 54 ls []) := by
  obtain ⟨hx, hb, hr, hts, hown, hml, hlocks⟩ := id bx
  unfold pX2_cheaperOf_54 at h
  refine lv_iload_n hx hb dX2_cheaperOf_54 rfl (lv_at hl 2 rfl) ?_
  refine lv_if_gt (tgt := 62) hx hb dX2_cheaperOf_55 (by decide) (fun c_55 => ?_) (fun c_55 => ?_)
  · have h := br_T h c_55
    refine lv_iload_n hx hb dX2_cheaperOf_62 rfl (lv_at hl 1 rfl) ?_
    exact GoI.end hx hb hr hlocks dX2_cheaperOf_63 rfl h
  · have h := br_F h c_55
    refine lv_iload_n hx hb dX2_cheaperOf_58 rfl (lv_at hl 0 rfl) ?_
    refine lv_goto (tgt := 63) hx hb dX2_cheaperOf_59 (by decide) ?_
    exact GoI.end hx hb hr hlocks dX2_cheaperOf_63 rfl h

set_option maxHeartbeats 4000000 in
set_option maxRecDepth 100000 in
theorem wX2_cheaperOf_44 {p : Program} {l : Launch} {e : Env} {s : State} {m : MethodId} {args : Array Value} {below : List Frame} {meth : Method} {c : Code} {G : GT} {q : Nat → Nat} {C : St} {out : Int32} (bx : BX p RX2 wsX2_cheaperOf cX2_cheaperOf 4 (some .int) s m args meth c) (hP : va_P G.1 vwCl (CW G q C) s.heap) (hK : CK G s) (x1 : Int32) (x2 : Int32) (x3 : Int32) (h : pX2_cheaperOf_44 C x1 x2 x3 = some out) (ls : Array Slot) (hl : lv_has ls 4 [(1, .int x1), (2, .int x2), (3, .int x3)]) : GoI p l e rmX2_cheaperOf s m args below meth c out (F0 m 44 ls []) := by
  obtain ⟨hx, hb, hr, hts, hown, hml, hlocks⟩ := id bx
  unfold pX2_cheaperOf_44 at h
  refine lv_iload_n hx hb dX2_cheaperOf_44 rfl (lv_at hl 2 rfl) ?_
  refine lv_if_ne (tgt := 54) hx hb dX2_cheaperOf_45 (by decide) (fun c_45 => ?_) (fun c_45 => ?_)
  · have h := br_F h c_45
    exact wX2_cheaperOf_54 bx hP hK x1 x2 x3 h _ (lv_sub hl [0, 1, 2] rfl)
  · have h := br_T h c_45
    refine lv_iload_n hx hb dX2_cheaperOf_48 rfl (lv_at hl 0 rfl) ?_
    refine lv_iload_n hx hb dX2_cheaperOf_49 rfl (lv_at hl 1 rfl) ?_
    obtain ⟨r_4, hr_4, h⟩ := bd_ex h
    refine ro_i (va_runS (As := [.int x1, .int x2]) (rest := []) ⟨hx, hb, hml, hown, hts⟩ (kJ6_compare_7cf53 l x1 x2 r_4 hr_4) (va_cwS 2 hts gX2_cheaperOf_J6_compare_7cf53 rfl rfl rfl (by decide +kernel) ⟨Nat.le_of_ble_eq_true rfl, Nat.le_of_ble_eq_true rfl⟩) noS rfl rfl hl.1 rfl (lv_room (Nat.le_of_ble_eq_true rfl)) dX2_cheaperOf_50 ⟨Nat.zero_le _, Nat.zero_le _⟩) ?_
    refine lv_istore_n (lv' := [(3, .int r_4), (1, .int x1), (2, .int x2)]) hx hb dX2_cheaperOf_53 rfl hl (by decide) rfl (fun ls hl => ?_)
    exact wX2_cheaperOf_54 bx hP hK x1 x2 r_4 h _ (lv_sub hl [1, 2, 0] rfl)

set_option maxHeartbeats 4000000 in
set_option maxRecDepth 100000 in
theorem kX2_cheaperOf (l : Launch) (G : GT) (q : Nat → Nat) (C : St) (x1 : Int32) (x2 : Int32) (r : Int32) (h : pX2_cheaperOf C x1 x2 = some r) : Met l yX2_cheaperOf wsX2_cheaperOf rmX2_cheaperOf (va_Pc [.ref (q 3), .int x1, .int x2] (roP G (CW G q C))) (vp_Si (fun v => v = r)) 0 0 (fun _ => False) := by
  refine Met.ofW (cc := cX2_cheaperOf) (maxL := 4) (ret := (some .int)) (by decide) rfl ?_
  intro p e s m args below meth c s₁ B hml hv
  obtain ⟨rfl, hP, hK⟩ := hv
  have bx := bx_of B hml
  obtain ⟨hx, hb, hr, hts, hown, hml, hlocks⟩ := id bx
  have hl := lv_entry ([.ref (q 3), .int x1, .int x2]) (n := 4) (Nat.le_of_ble_eq_true rfl)
  rw [lg_entry_eq]
  generalize (lg_sl ([.ref (q 3), .int x1, .int x2]) ++ List.replicate (4 - (lg_sl ([.ref (q 3), .int x1, .int x2])).length) Slot.unset).toArray = ls at hl ⊢
  have hl : lv_has ls 4 [(0, .ref (q 3)), (1, .int x1), (2, .int x2)] := hl
  show GoI p l e rmX2_cheaperOf s m _ below meth c r (F0 m 0 ls [])
  unfold pX2_cheaperOf at h
  refine lv_iload_n hx hb dX2_cheaperOf_0 rfl (lv_at hl 1 rfl) ?_
  refine lv_if_lt (tgt := 8) hx hb dX2_cheaperOf_1 (by decide) (fun c_1 => ?_) (fun c_1 => ?_)
  · have h := br_T h c_1
    exact wX2_cheaperOf_8 bx hP hK x1 x2 h _ (lv_sub hl [1, 2] rfl)
  · have h := br_F h c_1
    refine lv_iload_n hx hb dX2_cheaperOf_4 rfl (lv_at hl 2 rfl) ?_
    refine lv_if_ge (tgt := 14) hx hb dX2_cheaperOf_5 (by decide) (fun c_5 => ?_) (fun c_5 => ?_)
    · have h := br_T h c_5
      refine lv_aload_n hx hb dX2_cheaperOf_14 rfl (lv_at hl 0 rfl) ?_
      refine lv_iload_n hx hb dX2_cheaperOf_15 rfl (lv_at hl 1 rfl) ?_
      obtain ⟨r_1, hr_1, h⟩ := bd_ex h
      refine ro_i (va_runV (As := [.int x1]) (rest := []) ⟨hx, hb, hml, hown, hts⟩ (kX2_ofSet l G q C x1 r_1 hr_1) (cwV 1 hts gX2_cheaperOf_X2_ofSet rfl rfl rfl (by decide +kernel) ⟨Nat.le_of_ble_eq_true rfl, Nat.le_of_ble_eq_true rfl⟩) (roV hP hK 4 3 rfl rfl) rfl rfl hl.1 rfl (lv_room (Nat.le_of_ble_eq_true rfl)) dX2_cheaperOf_16 ⟨Nat.zero_le _, Nat.zero_le _⟩) ?_
      refine lv_aload_n hx hb dX2_cheaperOf_19 rfl (lv_at hl 0 rfl) ?_
      refine lv_iload_n hx hb dX2_cheaperOf_20 rfl (lv_at hl 2 rfl) ?_
      obtain ⟨r_2, hr_2, h⟩ := bd_ex h
      refine ro_i (va_runV (As := [.int x2]) (rest := [.int r_1]) ⟨hx, hb, hml, hown, hts⟩ (kX2_ofSet l G q C x2 r_2 hr_2) (cwV 1 hts gX2_cheaperOf_X2_ofSet rfl rfl rfl (by decide +kernel) ⟨Nat.le_of_ble_eq_true rfl, Nat.le_of_ble_eq_true rfl⟩) (roV hP hK 4 3 rfl rfl) rfl rfl hl.1 rfl (lv_room (Nat.le_of_ble_eq_true rfl)) dX2_cheaperOf_21 ⟨Nat.zero_le _, Nat.zero_le _⟩) ?_
      obtain ⟨r_3, hr_3, h⟩ := bd_ex h
      refine ro_i (va_runS (As := [.int r_1, .int r_2]) (rest := []) ⟨hx, hb, hml, hown, hts⟩ (kJ6_compare_7cf53 l r_1 r_2 r_3 hr_3) (va_cwS 2 hts gX2_cheaperOf_J6_compare_7cf53 rfl rfl rfl (by decide +kernel) ⟨Nat.le_of_ble_eq_true rfl, Nat.le_of_ble_eq_true rfl⟩) noS rfl rfl hl.1 rfl (lv_room (Nat.le_of_ble_eq_true rfl)) dX2_cheaperOf_24 ⟨Nat.zero_le _, Nat.zero_le _⟩) ?_
      refine lv_istore_n (lv' := [(3, .int r_3), (0, .ref (q 3)), (1, .int x1), (2, .int x2)]) hx hb dX2_cheaperOf_27 rfl hl (by decide) rfl (fun ls hl => ?_)
      refine lv_iload_n hx hb dX2_cheaperOf_28 rfl (lv_at hl 0 rfl) ?_
      refine lv_if_ne (tgt := 44) hx hb dX2_cheaperOf_29 (by decide) (fun c_29 => ?_) (fun c_29 => ?_)
      · have h := br_F h c_29
        exact wX2_cheaperOf_44 bx hP hK x1 x2 r_3 h _ (lv_sub hl [2, 3, 0] rfl)
      · have h := br_T h c_29
        refine lv_iload_n hx hb dX2_cheaperOf_32 rfl (lv_at hl 2 rfl) ?_
        obtain ⟨r_5, hr_5, h⟩ := bd_ex h
        refine ro_i (va_runS (As := [.int x1]) (rest := []) ⟨hx, hb, hml, hown, hts⟩ (kJ6_bitCount_0f7a4 l x1 r_5 hr_5) (va_cwS 1 hts gX2_cheaperOf_J6_bitCount_0f7a4 rfl rfl rfl (by decide +kernel) ⟨Nat.le_of_ble_eq_true rfl, Nat.le_of_ble_eq_true rfl⟩) noS rfl rfl hl.1 rfl (lv_room (Nat.le_of_ble_eq_true rfl)) dX2_cheaperOf_33 ⟨Nat.zero_le _, Nat.zero_le _⟩) ?_
        refine lv_iload_n hx hb dX2_cheaperOf_36 rfl (lv_at hl 3 rfl) ?_
        obtain ⟨r_6, hr_6, h⟩ := bd_ex h
        refine ro_i (va_runS (As := [.int x2]) (rest := [.int r_5]) ⟨hx, hb, hml, hown, hts⟩ (kJ6_bitCount_0f7a4 l x2 r_6 hr_6) (va_cwS 1 hts gX2_cheaperOf_J6_bitCount_0f7a4 rfl rfl rfl (by decide +kernel) ⟨Nat.le_of_ble_eq_true rfl, Nat.le_of_ble_eq_true rfl⟩) noS rfl rfl hl.1 rfl (lv_room (Nat.le_of_ble_eq_true rfl)) dX2_cheaperOf_37 ⟨Nat.zero_le _, Nat.zero_le _⟩) ?_
        obtain ⟨r_7, hr_7, h⟩ := bd_ex h
        refine ro_i (va_runS (As := [.int r_5, .int r_6]) (rest := []) ⟨hx, hb, hml, hown, hts⟩ (kJ6_compare_7cf53 l r_5 r_6 r_7 hr_7) (va_cwS 2 hts gX2_cheaperOf_J6_compare_7cf53 rfl rfl rfl (by decide +kernel) ⟨Nat.le_of_ble_eq_true rfl, Nat.le_of_ble_eq_true rfl⟩) noS rfl rfl hl.1 rfl (lv_room (Nat.le_of_ble_eq_true rfl)) dX2_cheaperOf_40 ⟨Nat.zero_le _, Nat.zero_le _⟩) ?_
        refine lv_istore_n (lv' := [(3, .int r_7), (0, .ref (q 3)), (1, .int x1), (2, .int x2)]) hx hb dX2_cheaperOf_43 rfl hl (by decide) rfl (fun ls hl => ?_)
        exact wX2_cheaperOf_44 bx hP hK x1 x2 r_7 h _ (lv_sub hl [2, 3, 0] rfl)
    · have h := br_F h c_5
      exact wX2_cheaperOf_8 bx hP hK x1 x2 h _ (lv_sub hl [1, 2] rfl)

def rmX4_cheapestFrom (d : Nat) : Room := { frames := d + 4, cells := 0, slots := 0, locals := 28 * d + 111 }

theorem in_wsX4_cheapestFrom_X5 : ∀ w ∈ u_ws RX5 TX5 6, w ∈ wsX4_cheapestFrom := by decide +kernel

set_option maxHeartbeats 4000000 in
set_option maxRecDepth 100000 in
theorem wX4_cheapestFrom_44 {p : Program} {l : Launch} {e : Env} {s : State} {m : MethodId} {args : Array Value} {below : List Frame} {meth : Method} {c : Code} {G : GT} {q : Nat → Nat} {C : St} {d : Nat} {self : St → Int32 → Int32 → Int32 → Int32 → Option (Int32)} (hself : ∀ (x3 : Int32) (x4 : Int32) (x5 : Int32) (x6 : Int32) (r : Int32), self C x3 x4 x5 x6 = some r → Met l yX4_cheapestFrom wsX4_cheapestFrom (rmX4_cheapestFrom d) (va_Pc [.ref (q 1), .ref (q 2), .ref (q 3), .int x3, .int x4, .int x5, .int x6] (roP G (CW G q C))) (vp_Si (fun v => v = r)) 0 0 (fun _ => False)) {out : Int32} (bx : BX p RX4 wsX4_cheapestFrom cX4_cheapestFrom 9 (some .int) s m args meth c) (hP : va_P G.1 vwCl (CW G q C) s.heap) (hK : CK G s) (x3 : Int32) (x4 : Int32) (x5 : Int32) (x6 : Int32) (x7 : Int32) (h : pX4_cheapestFrom_44 self C x3 x4 x5 x6 x7 = some out) (ls : Array Slot) (hl : lv_has ls 9 [(0, .ref (q 1)), (1, .ref (q 2)), (2, .ref (q 3)), (3, .int x3), (4, .int x4), (5, .int x5), (6, .int x6), (7, .int x7)]) : GoI p l e (rmX4_cheapestFrom (d + 1)) s m args below meth c out (F0 m 44 ls []) := by
  obtain ⟨hx, hb, hr, hts, hown, hml, hlocks⟩ := id bx
  unfold pX4_cheapestFrom_44 at h
  refine lv_aload_n hx hb dX4_cheapestFrom_44 rfl (lv_at hl 0 rfl) ?_
  refine lv_aload_n hx hb dX4_cheapestFrom_45 rfl (lv_at hl 1 rfl) ?_
  refine lv_iload_n hx hb dX4_cheapestFrom_46 rfl (lv_at hl 3 rfl) ?_
  refine lv_iload hx hb dX4_cheapestFrom_47 (lv_at hl 4 rfl) ?_
  refine lv_iload hx hb dX4_cheapestFrom_49 (lv_at hl 6 rfl) ?_
  obtain ⟨r_2, hr_2, h⟩ := bd_ex h
  refine ro_i (va_runS (As := [.ref (q 1), .ref (q 2), .int x3, .int x4, .int x6]) (rest := []) ⟨hx, hb, hml, hown, hts⟩ (kX4_canTake l G q C x3 x4 x6 r_2 hr_2) (va_cwS 5 hts gX4_cheapestFrom_X4_canTake rfl rfl rfl (by decide +kernel) ⟨by simp only [rmX4_cheapestFrom, rmX4_canTake]; omega, by simp only [rmX4_cheapestFrom, rmX4_canTake]; omega⟩) (roS hP hK) rfl rfl hl.1 rfl (lv_room (Nat.le_of_ble_eq_true rfl)) dX4_cheapestFrom_51 ⟨Nat.zero_le _, Nat.zero_le _⟩) ?_
  refine lv_if_eq (tgt := 88) hx hb dX4_cheapestFrom_54 (by decide) (fun c_54 => ?_) (fun c_54 => ?_)
  · have h := br_T h c_54
    refine lv_iload hx hb dX4_cheapestFrom_88 (lv_at hl 7 rfl) ?_
    exact GoI.end hx hb hr hlocks dX4_cheapestFrom_90 rfl h
  · have h := br_F h c_54
    refine lv_iload hx hb dX4_cheapestFrom_57 (lv_at hl 4 rfl) ?_
    refine lv_iconst (v := 1) hx hb dX4_cheapestFrom_59 (by decide) ?_
    refine lv_iload_n hx hb dX4_cheapestFrom_60 rfl (lv_at hl 3 rfl) ?_
    refine lv_ishl hx hb dX4_cheapestFrom_61 ?_
    refine lv_ior hx hb dX4_cheapestFrom_62 ?_
    refine lv_topi (fun v_3 ev_3 => ?_)
    have h := ltv_at h v_3 ev_3
    refine lv_istore (lv' := [(8, .int v_3), (0, .ref (q 1)), (1, .ref (q 2)), (2, .ref (q 3)), (3, .int x3), (4, .int x4), (5, .int x5), (6, .int x6), (7, .int x7)]) hx hb dX4_cheapestFrom_63 hl (by decide) rfl (fun ls hl => ?_)
    refine lv_aload_n hx hb dX4_cheapestFrom_65 rfl (lv_at hl 3 rfl) ?_
    refine lv_iload hx hb dX4_cheapestFrom_66 (lv_at hl 8 rfl) ?_
    refine lv_aload_n hx hb dX4_cheapestFrom_68 rfl (lv_at hl 1 rfl) ?_
    refine lv_aload_n hx hb dX4_cheapestFrom_69 rfl (lv_at hl 2 rfl) ?_
    refine lv_aload_n hx hb dX4_cheapestFrom_70 rfl (lv_at hl 3 rfl) ?_
    refine lv_iload_n hx hb dX4_cheapestFrom_71 rfl (lv_at hl 4 rfl) ?_
    refine lv_iconst (v := 1) hx hb dX4_cheapestFrom_72 (by decide) ?_
    refine lv_iadd hx hb dX4_cheapestFrom_73 ?_
    refine lv_iload hx hb dX4_cheapestFrom_74 (lv_at hl 0 rfl) ?_
    refine lv_iload hx hb dX4_cheapestFrom_76 (lv_at hl 6 rfl) ?_
    refine lv_iload hx hb dX4_cheapestFrom_78 (lv_at hl 7 rfl) ?_
    obtain ⟨r_4, hr_4, h⟩ := bd_ex h
    refine ro_i (va_runS (As := [.ref (q 1), .ref (q 2), .ref (q 3), .int (x3 + 1), .int v_3, .int x5, .int x6]) (rest := [.int x7, .ref (q 3)]) ⟨hx, hb, hml, hown, hts⟩ (hself (x3 + 1) v_3 x5 x6 r_4 hr_4) (va_cwS 7 hts gX4_cheapestFrom_X4_cheapestFrom rfl rfl rfl (by decide +kernel) ⟨by simp only [rmX4_cheapestFrom]; omega, by simp only [rmX4_cheapestFrom]; omega⟩) (roS hP hK) rfl rfl hl.1 rfl (lv_room (Nat.le_of_ble_eq_true rfl)) dX4_cheapestFrom_80 ⟨Nat.zero_le _, Nat.zero_le _⟩) ?_
    obtain ⟨r_5, hr_5, h⟩ := bd_ex h
    refine ro_i (va_runVN (As := [.int x7, .int r_4]) (rest := []) ⟨hx, hb, hml, hown, hts⟩ (kX2_cheaperOf l G q C x7 r_4 r_5 hr_5) ⟨va_cnB 2 hts gX4_cheapestFrom_X2_cheaperOf_n36 rfl rfl rfl (hK.2.nw 27 rfl) (w_mem hts 46 rfl) (by decide +kernel) ⟨by simp only [rmX4_cheapestFrom, rmX2_cheaperOf]; omega, by simp only [rmX4_cheapestFrom, rmX2_cheaperOf]; omega⟩, (w_mem hts 45 rfl), (w_mem hts 47 rfl)⟩ (roV hP hK 4 3 rfl rfl) rfl rfl hl.1 rfl (lv_room (Nat.le_of_ble_eq_true rfl)) dX4_cheapestFrom_83 ⟨Nat.zero_le _, Nat.zero_le _⟩) ?_
    refine lv_istore (lv' := [(7, .int r_5), (8, .int v_3), (0, .ref (q 1)), (1, .ref (q 2)), (2, .ref (q 3)), (3, .int x3), (4, .int x4), (5, .int x5), (6, .int x6)]) hx hb dX4_cheapestFrom_86 hl (by decide) rfl (fun ls hl => ?_)
    refine lv_iload hx hb dX4_cheapestFrom_88 (lv_at hl 0 rfl) ?_
    exact GoI.end hx hb hr hlocks dX4_cheapestFrom_90 rfl h

set_option maxHeartbeats 4000000 in
set_option maxRecDepth 100000 in
theorem kX4_cheapestFrom_e (l : Launch) (d : Nat) (G : GT) (q : Nat → Nat) (C : St) {self : St → Int32 → Int32 → Int32 → Int32 → Option (Int32)} (hself : ∀ (x3 : Int32) (x4 : Int32) (x5 : Int32) (x6 : Int32) (r : Int32), self C x3 x4 x5 x6 = some r → Met l yX4_cheapestFrom wsX4_cheapestFrom (rmX4_cheapestFrom d) (va_Pc [.ref (q 1), .ref (q 2), .ref (q 3), .int x3, .int x4, .int x5, .int x6] (roP G (CW G q C))) (vp_Si (fun v => v = r)) 0 0 (fun _ => False)) (x3 : Int32) (x4 : Int32) (x5 : Int32) (x6 : Int32) (r : Int32) (h : pX4_cheapestFrom_e self C x3 x4 x5 x6 = some r) : Met l yX4_cheapestFrom wsX4_cheapestFrom (rmX4_cheapestFrom (d + 1)) (va_Pc [.ref (q 1), .ref (q 2), .ref (q 3), .int x3, .int x4, .int x5, .int x6] (roP G (CW G q C))) (vp_Si (fun v => v = r)) 0 0 (fun _ => False) := by
  refine Met.ofW (cc := cX4_cheapestFrom) (maxL := 9) (ret := (some .int)) (by decide) rfl ?_
  intro p e s m args below meth c s₁ B hml hv
  obtain ⟨rfl, hP, hK⟩ := hv
  have bx := bx_of B hml
  obtain ⟨hx, hb, hr, hts, hown, hml, hlocks⟩ := id bx
  have hl := lv_entry ([.ref (q 1), .ref (q 2), .ref (q 3), .int x3, .int x4, .int x5, .int x6]) (n := 9) (Nat.le_of_ble_eq_true rfl)
  rw [lg_entry_eq]
  generalize (lg_sl ([.ref (q 1), .ref (q 2), .ref (q 3), .int x3, .int x4, .int x5, .int x6]) ++ List.replicate (9 - (lg_sl ([.ref (q 1), .ref (q 2), .ref (q 3), .int x3, .int x4, .int x5, .int x6])).length) Slot.unset).toArray = ls at hl ⊢
  have hl : lv_has ls 9 [(0, .ref (q 1)), (1, .ref (q 2)), (2, .ref (q 3)), (3, .int x3), (4, .int x4), (5, .int x5), (6, .int x6)] := hl
  show GoI p l e (rmX4_cheapestFrom (d + 1)) s m _ below meth c r (F0 m 0 ls [])
  unfold pX4_cheapestFrom_e at h
  refine lv_iload_n hx hb dX4_cheapestFrom_0 rfl (lv_at hl 3 rfl) ?_
  refine lv_aload_n hx hb dX4_cheapestFrom_1 rfl (lv_at hl 0 rfl) ?_
  refine va_getN (D := G.1) (ci := 6) (v := .int (C.1 3)) (C := RX5) (T := TX5) (N := 6) hx hb hts in_wsX4_cheapestFrom_X5 hown hK.1 hP 1 rfl rfl 5 (by decide) (hK.2.at 56 rfl) (fun _ h9 => h9) rfl dX4_cheapestFrom_2 ?_
  refine lv_icmp_lt (tgt := 11) hx hb dX4_cheapestFrom_5 (by decide) (fun c_5 => ?_) (fun c_5 => ?_)
  · have h := br_T h c_5
    refine lv_iconst (v := (-1)) hx hb dX4_cheapestFrom_11 (by decide) ?_
    refine lv_istore (lv' := [(7, .int (-1)), (0, .ref (q 1)), (1, .ref (q 2)), (2, .ref (q 3)), (3, .int x3), (4, .int x4), (5, .int x5), (6, .int x6)]) hx hb dX4_cheapestFrom_12 hl (by decide) rfl (fun ls hl => ?_)
    refine lv_aload_n hx hb dX4_cheapestFrom_14 rfl (lv_at hl 1 rfl) ?_
    refine lv_aload_n hx hb dX4_cheapestFrom_15 rfl (lv_at hl 2 rfl) ?_
    refine lv_iload_n hx hb dX4_cheapestFrom_16 rfl (lv_at hl 4 rfl) ?_
    refine lv_iload hx hb dX4_cheapestFrom_17 (lv_at hl 5 rfl) ?_
    refine lv_iload hx hb dX4_cheapestFrom_19 (lv_at hl 6 rfl) ?_
    obtain ⟨r_1, hr_1, h⟩ := bd_ex h
    refine ro_i (va_runS (As := [.ref (q 1), .ref (q 2), .int x3, .int x4, .int x5]) (rest := []) ⟨hx, hb, hml, hown, hts⟩ (kX4_canLeave l G q C x3 x4 x5 r_1 hr_1) (va_cwS 5 hts gX4_cheapestFrom_X4_canLeave rfl rfl rfl (by decide +kernel) ⟨by simp only [rmX4_cheapestFrom, rmX4_canLeave]; omega, by simp only [rmX4_cheapestFrom, rmX4_canLeave]; omega⟩) (roS hP hK) rfl rfl hl.1 rfl (lv_room (Nat.le_of_ble_eq_true rfl)) dX4_cheapestFrom_21 ⟨Nat.zero_le _, Nat.zero_le _⟩) ?_
    refine lv_if_eq (tgt := 44) hx hb dX4_cheapestFrom_24 (by decide) (fun c_24 => ?_) (fun c_24 => ?_)
    · have h := br_T h c_24
      exact wX4_cheapestFrom_44 hself bx hP hK x3 x4 x5 x6 (-1) h _ (lv_sub hl [1, 2, 3, 4, 5, 6, 7, 0] rfl)
    · have h := br_F h c_24
      refine lv_aload_n hx hb dX4_cheapestFrom_27 rfl (lv_at hl 1 rfl) ?_
      refine lv_aload_n hx hb dX4_cheapestFrom_28 rfl (lv_at hl 2 rfl) ?_
      refine lv_aload_n hx hb dX4_cheapestFrom_29 rfl (lv_at hl 3 rfl) ?_
      refine lv_iload_n hx hb dX4_cheapestFrom_30 rfl (lv_at hl 4 rfl) ?_
      refine lv_iconst (v := 1) hx hb dX4_cheapestFrom_31 (by decide) ?_
      refine lv_iadd hx hb dX4_cheapestFrom_32 ?_
      refine lv_iload hx hb dX4_cheapestFrom_33 (lv_at hl 5 rfl) ?_
      refine lv_iload hx hb dX4_cheapestFrom_35 (lv_at hl 6 rfl) ?_
      refine lv_iload hx hb dX4_cheapestFrom_37 (lv_at hl 7 rfl) ?_
      obtain ⟨r_6, hr_6, h⟩ := bd_ex h
      refine ro_i (va_runS (As := [.ref (q 1), .ref (q 2), .ref (q 3), .int (x3 + 1), .int x4, .int x5, .int x6]) (rest := []) ⟨hx, hb, hml, hown, hts⟩ (hself (x3 + 1) x4 x5 x6 r_6 hr_6) (va_cwS 7 hts gX4_cheapestFrom_X4_cheapestFrom rfl rfl rfl (by decide +kernel) ⟨by simp only [rmX4_cheapestFrom]; omega, by simp only [rmX4_cheapestFrom]; omega⟩) (roS hP hK) rfl rfl hl.1 rfl (lv_room (Nat.le_of_ble_eq_true rfl)) dX4_cheapestFrom_39 ⟨Nat.zero_le _, Nat.zero_le _⟩) ?_
      refine lv_istore (lv' := [(7, .int r_6), (0, .ref (q 1)), (1, .ref (q 2)), (2, .ref (q 3)), (3, .int x3), (4, .int x4), (5, .int x5), (6, .int x6)]) hx hb dX4_cheapestFrom_42 hl (by decide) rfl (fun ls hl => ?_)
      exact wX4_cheapestFrom_44 hself bx hP hK x3 x4 x5 x6 r_6 h _ (lv_sub hl [1, 2, 3, 4, 5, 6, 7, 0] rfl)
  · have h := br_F h c_5
    refine lv_iload hx hb dX4_cheapestFrom_8 (lv_at hl 4 rfl) ?_
    exact GoI.end hx hb hr hlocks dX4_cheapestFrom_10 rfl h

theorem kX4_cheapestFrom (l : Launch) : ∀ (d : Nat) (G : GT) (q : Nat → Nat) (C : St) (x3 : Int32) (x4 : Int32) (x5 : Int32) (x6 : Int32) (r : Int32), pX4_cheapestFrom d C x3 x4 x5 x6 = some r → Met l yX4_cheapestFrom wsX4_cheapestFrom (rmX4_cheapestFrom d) (va_Pc [.ref (q 1), .ref (q 2), .ref (q 3), .int x3, .int x4, .int x5, .int x6] (roP G (CW G q C))) (vp_Si (fun v => v = r)) 0 0 (fun _ => False) := by
  intro d
  induction d with
  | zero => intro G q C _ _ _ _ r h; cases h
  | succ d ih => exact fun G q C a0 a1 a2 a3 r h => kX4_cheapestFrom_e l d G q C (fun b0 b1 b2 b3 r h => ih G q C b0 b1 b2 b3 r h) a0 a1 a2 a3 r h
