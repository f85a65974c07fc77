def rmX3_holdsFor : Room := { frames := 0, cells := 0, slots := 0, locals := 0 }

theorem in_wsX3_holdsFor_X3 : ∀ w ∈ u_ws RX3 TX3 5, w ∈ wsX3_holdsFor := by decide +kernel

set_option maxHeartbeats 4000000 in
set_option maxRecDepth 100000 in
theorem kX3_holdsFor (l : Launch) (G : GT) (q : Nat → Nat) (C : St) (x1 : Int32) (x2 : Int32) (r : Int32) (h : pX3_holdsFor C x1 x2 = some r) : Met l yX3_holdsFor wsX3_holdsFor rmX3_holdsFor (va_Pc [.ref (q 2), .int x1, .int x2] (roP G (CW G q C))) (vp_Si (fun v => v = r)) 0 0 (fun _ => False) := by
  refine Met.ofW (cc := cX3_holdsFor) (maxL := 3) (ret := (some .boolean)) (by decide) rfl ?_
  intro p e s m args below meth c s₁ B hml hv
  obtain ⟨rfl, hP, hK⟩ := hv
  have bx := bx_of B hml
  obtain ⟨hx, hb, hr, hts, hown, hml, hlocks⟩ := id bx
  have hl := lv_entry ([.ref (q 2), .int x1, .int x2]) (n := 3) (Nat.le_of_ble_eq_true rfl)
  rw [lg_entry_eq]
  generalize (lg_sl ([.ref (q 2), .int x1, .int x2]) ++ List.replicate (3 - (lg_sl ([.ref (q 2), .int x1, .int x2])).length) Slot.unset).toArray = ls at hl ⊢
  have hl : lv_has ls 3 [(0, .ref (q 2)), (1, .int x1), (2, .int x2)] := hl
  show GoI p l e rmX3_holdsFor s m _ below meth c r (F0 m 0 ls [])
  unfold pX3_holdsFor at h
  refine lv_aload_n hx hb dX3_holdsFor_0 rfl (lv_at hl 0 rfl) ?_
  refine va_get (D := G.1) (ci := 3) (v := .ref (q 10)) (C := RX3) (T := TX3) (N := 5) hx hb hts in_wsX3_holdsFor_X3 hown hK.1 hP 2 rfl rfl 0 (by decide) (w_mem hts 1 rfl) (fun _ h9 => h9) rfl dX3_holdsFor_1 ?_
  refine lv_iload_n hx hb dX3_holdsFor_4 rfl (lv_at hl 1 rfl) ?_
  obtain ⟨g5, h⟩ := gd_ex h
  refine va_iald (D := G.1) hx hb hK.1 hP 10 0 rfl rfl g5 dX3_holdsFor_5 ?_
  refine lv_iload_n hx hb dX3_holdsFor_6 rfl (lv_at hl 2 rfl) ?_
  refine lv_iand hx hb dX3_holdsFor_7 ?_
  refine lv_aload_n hx hb dX3_holdsFor_8 rfl (lv_at hl 0 rfl) ?_
  refine va_get (D := G.1) (ci := 3) (v := .ref (q 11)) (C := RX3) (T := TX3) (N := 5) hx hb hts in_wsX3_holdsFor_X3 hown hK.1 hP 2 rfl rfl 1 (by decide) (w_mem hts 2 rfl) (fun _ h9 => h9) rfl dX3_holdsFor_9 ?_
  refine lv_iload_n hx hb dX3_holdsFor_12 rfl (lv_at hl 1 rfl) ?_
  obtain ⟨g13, h⟩ := gd_ex h
  refine va_iald (D := G.1) hx hb hK.1 hP 11 0 rfl rfl g13 dX3_holdsFor_13 ?_
  refine lv_iload_n hx hb dX3_holdsFor_14 rfl (lv_at hl 2 rfl) ?_
  refine lv_iconst (v := (-1)) hx hb dX3_holdsFor_15 (by decide) ?_
  refine lv_ixor hx hb dX3_holdsFor_16 ?_
  refine lv_iand hx hb dX3_holdsFor_17 ?_
  refine lv_ior hx hb dX3_holdsFor_18 ?_
  refine lv_if_eq (tgt := 26) hx hb dX3_holdsFor_19 (by decide) (fun c_19 => ?_) (fun c_19 => ?_)
  · have h := br_T h c_19
    refine lv_iconst (v := 0) hx hb dX3_holdsFor_26 (by decide) ?_
    exact GoI.end hx hb hr hlocks dX3_holdsFor_27 rfl h
  · have h := br_F h c_19
    refine lv_iconst (v := 1) hx hb dX3_holdsFor_22 (by decide) ?_
    refine lv_goto (tgt := 27) hx hb dX3_holdsFor_23 (by decide) ?_
    exact GoI.end hx hb hr hlocks dX3_holdsFor_27 rfl h

def rmX3_holdFor : Room := { frames := 1, cells := 0, slots := 0, locals := 22 }

theorem in_wsX3_holdFor_X3 : ∀ w ∈ u_ws RX3 TX3 5, w ∈ wsX3_holdFor := by decide +kernel

set_option maxHeartbeats 4000000 in
set_option maxRecDepth 100000 in
theorem wX3_holdFor_32 {p : Program} {l : Launch} {e : Env} {s : State} {m : MethodId} {args : Array Value} {below : List Frame} {meth : Method} {c : Code} {G : GT} {q : Nat → Nat} {C : St} {out : Int32} (bx : BX p RX3 wsX3_holdFor cX3_holdFor 3 (some .boolean) s m args meth c) (hP : va_P G.1 vwCl (CW G q C) s.heap) (hK : CK G s) {k2 : St → Int32 → Int32 → Option (Int32)} (hk2 : ∀ (x1 : Int32) (x2 : Int32), k2 C x1 x2 = some out → ∀ (ls : Array Slot), lv_has ls 3 [(0, .ref (q 2)), (1, .int x1), (2, .int x2)] → GoI p l e rmX3_holdFor s m args below meth c out (F0 m 2 ls [])) (x1 : Int32) (x2 : Int32) (h : pX3_holdFor_32 k2 C x1 x2 = some out) (ls : Array Slot) (hl : lv_has ls 3 [(0, .ref (q 2)), (1, .int x1), (2, .int x2)]) : GoI p l e rmX3_holdFor s m args below meth c out (F0 m 32 ls []) := by
  obtain ⟨hx, hb, hr, hts, hown, hml, hlocks⟩ := id bx
  unfold pX3_holdFor_32 at h
  obtain ⟨v_2, ev_2, h⟩ := ltv_ex h
  refine lv_iinc (v := v_2) (lv' := [(2, .int v_2), (0, .ref (q 2)), (1, .int x1)]) hx hb dX3_holdFor_32 hl (k := 2) rfl (by rw [ev_2]; rfl) (by decide) rfl (fun ls hl => ?_)
  refine lv_goto (tgt := 2) hx hb dX3_holdFor_35 (by decide) ?_
  exact hk2 x1 v_2 h _ (lv_sub hl [1, 2, 0] rfl)

set_option maxHeartbeats 4000000 in
set_option maxRecDepth 100000 in
theorem wX3_holdFor_2_b {p : Program} {l : Launch} {e : Env} {s : State} {m : MethodId} {args : Array Value} {below : List Frame} {meth : Method} {c : Code} {G : GT} {q : Nat → Nat} {C : St} {out : Int32} (bx : BX p RX3 wsX3_holdFor cX3_holdFor 3 (some .boolean) s m args meth c) (hP : va_P G.1 vwCl (CW G q C) s.heap) (hK : CK G s) {k2 : St → Int32 → Int32 → Option (Int32)} (hk2 : ∀ (x1 : Int32) (x2 : Int32), k2 C x1 x2 = some out → ∀ (ls : Array Slot), lv_has ls 3 [(0, .ref (q 2)), (1, .int x1), (2, .int x2)] → GoI p l e rmX3_holdFor s m args below meth c out (F0 m 2 ls [])) (x1 : Int32) (x2 : Int32) (h : pX3_holdFor_2_b k2 C x1 x2 = some out) (ls : Array Slot) (hl : lv_has ls 3 [(0, .ref (q 2)), (1, .int x1), (2, .int x2)]) : GoI p l e rmX3_holdFor s m args below meth c out (F0 m 2 ls []) := by
  obtain ⟨hx, hb, hr, hts, hown, hml, hlocks⟩ := id bx
  unfold pX3_holdFor_2_b at h
  refine lv_iload_n hx hb dX3_holdFor_2 rfl (lv_at hl 2 rfl) ?_
  refine lv_aload_n hx hb dX3_holdFor_3 rfl (lv_at hl 0 rfl) ?_
  refine va_get (D := G.1) (ci := 3) (v := .int (C.1 5)) (C := RX3) (T := TX3) (N := 5) hx hb hts in_wsX3_holdFor_X3 hown hK.1 hP 2 rfl rfl 4 (by decide) (w_mem hts 1 rfl) (fun _ h9 => h9) rfl dX3_holdFor_4 ?_
  refine lv_icmp_ge (tgt := 38) hx hb dX3_holdFor_7 (by decide) (fun c_7 => ?_) (fun c_7 => ?_)
  · have h := br_T h c_7
    refine lv_iconst (v := 1) hx hb dX3_holdFor_38 (by decide) ?_
    exact GoI.end hx hb hr hlocks dX3_holdFor_39 rfl h
  · have h := br_F h c_7
    refine lv_aload_n hx hb dX3_holdFor_10 rfl (lv_at hl 0 rfl) ?_
    refine va_get (D := G.1) (ci := 3) (v := .int (C.1 4)) (C := RX3) (T := TX3) (N := 5) hx hb hts in_wsX3_holdFor_X3 hown hK.1 hP 2 rfl rfl 3 (by decide) (w_mem hts 2 rfl) (fun _ h9 => h9) rfl dX3_holdFor_11 ?_
    refine lv_iload_n hx hb dX3_holdFor_14 rfl (lv_at hl 2 rfl) ?_
    obtain ⟨r_1, hr_1, h⟩ := bd_ex h
    refine ro_i (va_runSN (As := [.int (C.1 4), .int x2]) (rest := []) ⟨hx, hb, hml, hown, hts⟩ (kX6_has l G q C (C.1 4) x2 r_1 hr_1) ⟨va_cnB 2 hts gX3_holdFor_X6_has_n28 rfl rfl rfl (hK.2.nw 17 rfl) (w_mem hts 4 rfl) (by decide +kernel) ⟨Nat.le_of_ble_eq_true rfl, Nat.le_of_ble_eq_true rfl⟩, (w_mem hts 3 rfl), trivial⟩ (roS hP hK) rfl rfl hl.1 rfl (lv_room (Nat.le_of_ble_eq_true rfl)) dX3_holdFor_15 ⟨Nat.zero_le _, Nat.zero_le _⟩) ?_
    refine lv_if_eq (tgt := 32) hx hb dX3_holdFor_18 (by decide) (fun c_18 => ?_) (fun c_18 => ?_)
    · have h := br_T h c_18
      exact wX3_holdFor_32 bx hP hK hk2 x1 x2 h _ (lv_sub hl [0, 1, 2] rfl)
    · have h := br_F h c_18
      refine lv_aload_n hx hb dX3_holdFor_21 rfl (lv_at hl 0 rfl) ?_
      refine lv_iload_n hx hb dX3_holdFor_22 rfl (lv_at hl 2 rfl) ?_
      refine lv_iload_n hx hb dX3_holdFor_23 rfl (lv_at hl 1 rfl) ?_
      obtain ⟨r_3, hr_3, h⟩ := bd_ex h
      refine ro_i (va_runV (As := [.int x2, .int x1]) (rest := []) ⟨hx, hb, hml, hown, hts⟩ (kX3_holdsFor l G q C x2 x1 r_3 hr_3) (cwV 2 hts gX3_holdFor_X3_holdsFor rfl rfl rfl (by decide +kernel) ⟨Nat.le_of_ble_eq_true rfl, Nat.le_of_ble_eq_true rfl⟩) (roV hP hK 3 2 rfl rfl) rfl rfl hl.1 rfl (lv_room (Nat.le_of_ble_eq_true rfl)) dX3_holdFor_24 ⟨Nat.zero_le _, Nat.zero_le _⟩) ?_
      refine lv_if_ne (tgt := 32) hx hb dX3_holdFor_27 (by decide) (fun c_27 => ?_) (fun c_27 => ?_)
      · have h := br_F h c_27
        exact wX3_holdFor_32 bx hP hK hk2 x1 x2 h _ (lv_sub hl [0, 1, 2] rfl)
      · have h := br_T h c_27
        refine lv_iconst (v := 0) hx hb dX3_holdFor_30 (by decide) ?_
        exact GoI.end hx hb hr hlocks dX3_holdFor_31 rfl h

theorem wX3_holdFor_2 {p : Program} {l : Launch} {e : Env} {s : State} {m : MethodId} {args : Array Value} {below : List Frame} {meth : Method} {c : Code} {G : GT} {q : Nat → Nat} {C : St} {out : Int32} (bx : BX p RX3 wsX3_holdFor cX3_holdFor 3 (some .boolean) s m args meth c) (hP : va_P G.1 vwCl (CW G q C) s.heap) (hK : CK G s) :
    ∀ (n : Nat) (x1 : Int32) (x2 : Int32), pX3_holdFor_2 n C x1 x2 = some out → ∀ (ls : Array Slot), lv_has ls 3 [(0, .ref (q 2)), (1, .int x1), (2, .int x2)] → GoI p l e rmX3_holdFor s m args below meth c out (F0 m 2 ls []) := by
  intro n
  induction n with
  | zero => intro _ _ h; cases h
  | succ n ih => exact fun a0 a1 h ls hl => wX3_holdFor_2_b bx hP hK ih a0 a1 h ls hl

set_option maxHeartbeats 4000000 in
set_option maxRecDepth 100000 in
theorem kX3_holdFor (l : Launch) (G : GT) (q : Nat → Nat) (C : St) (x1 : Int32) (r : Int32) (h : pX3_holdFor C x1 = some r) : Met l yX3_holdFor wsX3_holdFor rmX3_holdFor (va_Pc [.ref (q 2), .int x1] (roP G (CW G q C))) (vp_Si (fun v => v = r)) 0 0 (fun _ => False) := by
  refine Met.ofW (cc := cX3_holdFor) (maxL := 3) (ret := (some .boolean)) (by decide) rfl ?_
  intro p e s m args below meth c s₁ B hml hv
  obtain ⟨rfl, hP, hK⟩ := hv
  have bx := bx_of B hml
  obtain ⟨hx, hb, hr, hts, hown, hml, hlocks⟩ := id bx
  have hl := lv_entry ([.ref (q 2), .int x1]) (n := 3) (Nat.le_of_ble_eq_true rfl)
  rw [lg_entry_eq]
  generalize (lg_sl ([.ref (q 2), .int x1]) ++ List.replicate (3 - (lg_sl ([.ref (q 2), .int x1])).length) Slot.unset).toArray = ls at hl ⊢
  have hl : lv_has ls 3 [(0, .ref (q 2)), (1, .int x1)] := hl
  show GoI p l e rmX3_holdFor s m _ below meth c r (F0 m 0 ls [])
  unfold pX3_holdFor at h
  refine lv_iconst (v := 0) hx hb dX3_holdFor_0 (by decide) ?_
  refine lv_istore_n (lv' := [(2, .int 0), (0, .ref (q 2)), (1, .int x1)]) hx hb dX3_holdFor_1 rfl hl (by decide) rfl (fun ls hl => ?_)
  exact wX3_holdFor_2 bx hP hK FU x1 0 h _ (lv_sub hl [1, 2, 0] rfl)

def rmX3_holdAt : Room := { frames := 1, cells := 0, slots := 0, locals := 22 }

theorem in_wsX3_holdAt_X3 : ∀ w ∈ u_ws RX3 TX3 5, w ∈ wsX3_holdAt := by decide +kernel

set_option maxHeartbeats 4000000 in
set_option maxRecDepth 100000 in
theorem wX3_holdAt_42 {p : Program} {l : Launch} {e : Env} {s : State} {m : MethodId} {args : Array Value} {below : List Frame} {meth : Method} {c : Code} {G : GT} {q : Nat → Nat} {C : St} {out : Int32} (bx : BX p RX3 wsX3_holdAt cX3_holdAt 4 (some .boolean) s m args meth c) (hP : va_P G.1 vwCl (CW G q C) s.heap) (hK : CK G s) {k2 : St → Int32 → Int32 → Int32 → Option (Int32)} (hk2 : ∀ (x1 : Int32) (x2 : Int32) (x3 : Int32), k2 C x1 x2 x3 = some out → ∀ (ls : Array Slot), lv_has ls 4 [(0, .ref (q 2)), (1, .int x1), (2, .int x2), (3, .int x3)] → GoI p l e rmX3_holdAt s m args below meth c out (F0 m 2 ls [])) (x1 : Int32) (x2 : Int32) (x3 : Int32) (h : pX3_holdAt_42 k2 C x1 x2 x3 = some out) (ls : Array Slot) (hl : lv_has ls 4 [(0, .ref (q 2)), (1, .int x1), (2, .int x2), (3, .int x3)]) : GoI p l e rmX3_holdAt s m args below meth c out (F0 m 42 ls []) := by
  obtain ⟨hx, hb, hr, hts, hown, hml, hlocks⟩ := id bx
  unfold pX3_holdAt_42 at h
  obtain ⟨v_1, ev_1, h⟩ := ltv_ex h
  refine lv_iinc (v := v_1) (lv' := [(3, .int v_1), (0, .ref (q 2)), (1, .int x1), (2, .int x2)]) hx hb dX3_holdAt_42 hl (k := 3) rfl (by rw [ev_1]; rfl) (by decide) rfl (fun ls hl => ?_)
  refine lv_goto (tgt := 2) hx hb dX3_holdAt_45 (by decide) ?_
  exact hk2 x1 x2 v_1 h _ (lv_sub hl [1, 2, 3, 0] rfl)

set_option maxHeartbeats 4000000 in
set_option maxRecDepth 100000 in
theorem wX3_holdAt_2_b {p : Program} {l : Launch} {e : Env} {s : State} {m : MethodId} {args : Array Value} {below : List Frame} {meth : Method} {c : Code} {G : GT} {q : Nat → Nat} {C : St} {out : Int32} (bx : BX p RX3 wsX3_holdAt cX3_holdAt 4 (some .boolean) s m args meth c) (hP : va_P G.1 vwCl (CW G q C) s.heap) (hK : CK G s) {k2 : St → Int32 → Int32 → Int32 → Option (Int32)} (hk2 : ∀ (x1 : Int32) (x2 : Int32) (x3 : Int32), k2 C x1 x2 x3 = some out → ∀ (ls : Array Slot), lv_has ls 4 [(0, .ref (q 2)), (1, .int x1), (2, .int x2), (3, .int x3)] → GoI p l e rmX3_holdAt s m args below meth c out (F0 m 2 ls [])) (x1 : Int32) (x2 : Int32) (x3 : Int32) (h : pX3_holdAt_2_b k2 C x1 x2 x3 = some out) (ls : Array Slot) (hl : lv_has ls 4 [(0, .ref (q 2)), (1, .int x1), (2, .int x2), (3, .int x3)]) : GoI p l e rmX3_holdAt s m args below meth c out (F0 m 2 ls []) := by
  obtain ⟨hx, hb, hr, hts, hown, hml, hlocks⟩ := id bx
  unfold pX3_holdAt_2_b at h
  refine lv_iload_n hx hb dX3_holdAt_2 rfl (lv_at hl 3 rfl) ?_
  refine lv_aload_n hx hb dX3_holdAt_3 rfl (lv_at hl 0 rfl) ?_
  refine va_get (D := G.1) (ci := 3) (v := .int (C.1 5)) (C := RX3) (T := TX3) (N := 5) hx hb hts in_wsX3_holdAt_X3 hown hK.1 hP 2 rfl rfl 4 (by decide) (w_mem hts 1 rfl) (fun _ h9 => h9) rfl dX3_holdAt_4 ?_
  refine lv_icmp_ge (tgt := 48) hx hb dX3_holdAt_7 (by decide) (fun c_7 => ?_) (fun c_7 => ?_)
  · have h := br_T h c_7
    refine lv_iconst (v := 1) hx hb dX3_holdAt_48 (by decide) ?_
    exact GoI.end hx hb hr hlocks dX3_holdAt_49 rfl h
  · have h := br_F h c_7
    refine lv_aload_n hx hb dX3_holdAt_10 rfl (lv_at hl 0 rfl) ?_
    refine va_get (D := G.1) (ci := 3) (v := .ref (q 12)) (C := RX3) (T := TX3) (N := 5) hx hb hts in_wsX3_holdAt_X3 hown hK.1 hP 2 rfl rfl 2 (by decide) (w_mem hts 2 rfl) (fun _ h9 => h9) rfl dX3_holdAt_11 ?_
    refine lv_iload_n hx hb dX3_holdAt_14 rfl (lv_at hl 3 rfl) ?_
    obtain ⟨g15, h⟩ := gd_ex h
    refine va_iald (D := G.1) hx hb hK.1 hP 12 0 rfl rfl g15 dX3_holdAt_15 ?_
    refine lv_iload_n hx hb dX3_holdAt_16 rfl (lv_at hl 1 rfl) ?_
    refine lv_icmp_ne (tgt := 42) hx hb dX3_holdAt_17 (by decide) (fun c_17 => ?_) (fun c_17 => ?_)
    · have h := br_F h c_17
      exact wX3_holdAt_42 bx hP hK hk2 x1 x2 x3 h _ (lv_sub hl [0, 1, 2, 3] rfl)
    · have h := br_T h c_17
      refine lv_aload_n hx hb dX3_holdAt_20 rfl (lv_at hl 0 rfl) ?_
      refine va_get (D := G.1) (ci := 3) (v := .int (C.1 4)) (C := RX3) (T := TX3) (N := 5) hx hb hts in_wsX3_holdAt_X3 hown hK.1 hP 2 rfl rfl 3 (by decide) (w_mem hts 3 rfl) (fun _ h9 => h9) rfl dX3_holdAt_21 ?_
      refine lv_iload_n hx hb dX3_holdAt_24 rfl (lv_at hl 3 rfl) ?_
      obtain ⟨r_2, hr_2, h⟩ := bd_ex h
      refine ro_i (va_runSN (As := [.int (C.1 4), .int x3]) (rest := []) ⟨hx, hb, hml, hown, hts⟩ (kX6_has l G q C (C.1 4) x3 r_2 hr_2) ⟨va_cnB 2 hts gX3_holdAt_X6_has_n28 rfl rfl rfl (hK.2.nw 17 rfl) (w_mem hts 5 rfl) (by decide +kernel) ⟨Nat.le_of_ble_eq_true rfl, Nat.le_of_ble_eq_true rfl⟩, (w_mem hts 4 rfl), trivial⟩ (roS hP hK) rfl rfl hl.1 rfl (lv_room (Nat.le_of_ble_eq_true rfl)) dX3_holdAt_25 ⟨Nat.zero_le _, Nat.zero_le _⟩) ?_
      refine lv_if_eq (tgt := 42) hx hb dX3_holdAt_28 (by decide) (fun c_28 => ?_) (fun c_28 => ?_)
      · have h := br_T h c_28
        exact wX3_holdAt_42 bx hP hK hk2 x1 x2 x3 h _ (lv_sub hl [0, 1, 2, 3] rfl)
      · have h := br_F h c_28
        refine lv_aload_n hx hb dX3_holdAt_31 rfl (lv_at hl 0 rfl) ?_
        refine lv_iload_n hx hb dX3_holdAt_32 rfl (lv_at hl 3 rfl) ?_
        refine lv_iload_n hx hb dX3_holdAt_33 rfl (lv_at hl 2 rfl) ?_
        obtain ⟨r_3, hr_3, h⟩ := bd_ex h
        refine ro_i (va_runV (As := [.int x3, .int x2]) (rest := []) ⟨hx, hb, hml, hown, hts⟩ (kX3_holdsFor l G q C x3 x2 r_3 hr_3) (cwV 2 hts gX3_holdAt_X3_holdsFor rfl rfl rfl (by decide +kernel) ⟨Nat.le_of_ble_eq_true rfl, Nat.le_of_ble_eq_true rfl⟩) (roV hP hK 3 2 rfl rfl) rfl rfl hl.1 rfl (lv_room (Nat.le_of_ble_eq_true rfl)) dX3_holdAt_34 ⟨Nat.zero_le _, Nat.zero_le _⟩) ?_
        refine lv_if_ne (tgt := 42) hx hb dX3_holdAt_37 (by decide) (fun c_37 => ?_) (fun c_37 => ?_)
        · have h := br_F h c_37
          exact wX3_holdAt_42 bx hP hK hk2 x1 x2 x3 h _ (lv_sub hl [0, 1, 2, 3] rfl)
        · have h := br_T h c_37
          refine lv_iconst (v := 0) hx hb dX3_holdAt_40 (by decide) ?_
          exact GoI.end hx hb hr hlocks dX3_holdAt_41 rfl h

theorem wX3_holdAt_2 {p : Program} {l : Launch} {e : Env} {s : State} {m : MethodId} {args : Array Value} {below : List Frame} {meth : Method} {c : Code} {G : GT} {q : Nat → Nat} {C : St} {out : Int32} (bx : BX p RX3 wsX3_holdAt cX3_holdAt 4 (some .boolean) s m args meth c) (hP : va_P G.1 vwCl (CW G q C) s.heap) (hK : CK G s) :
    ∀ (n : Nat) (x1 : Int32) (x2 : Int32) (x3 : Int32), pX3_holdAt_2 n C x1 x2 x3 = some out → ∀ (ls : Array Slot), lv_has ls 4 [(0, .ref (q 2)), (1, .int x1), (2, .int x2), (3, .int x3)] → GoI p l e rmX3_holdAt s m args below meth c out (F0 m 2 ls []) := by
  intro n
  induction n with
  | zero => intro _ _ _ h; cases h
  | succ n ih => exact fun a0 a1 a2 h ls hl => wX3_holdAt_2_b bx hP hK ih a0 a1 a2 h ls hl

set_option maxHeartbeats 4000000 in
set_option maxRecDepth 100000 in
theorem kX3_holdAt (l : Launch) (G : GT) (q : Nat → Nat) (C : St) (x1 : Int32) (x2 : Int32) (r : Int32) (h : pX3_holdAt C x1 x2 = some r) : Met l yX3_holdAt wsX3_holdAt rmX3_holdAt (va_Pc [.ref (q 2), .int x1, .int x2] (roP G (CW G q C))) (vp_Si (fun v => v = r)) 0 0 (fun _ => False) := by
  refine Met.ofW (cc := cX3_holdAt) (maxL := 4) (ret := (some .boolean)) (by decide) rfl ?_
  intro p e s m args below meth c s₁ B hml hv
  obtain ⟨rfl, hP, hK⟩ := hv
  have bx := bx_of B hml
  obtain ⟨hx, hb, hr, hts, hown, hml, hlocks⟩ := id bx
  have hl := lv_entry ([.ref (q 2), .int x1, .int x2]) (n := 4) (Nat.le_of_ble_eq_true rfl)
  rw [lg_entry_eq]
  generalize (lg_sl ([.ref (q 2), .int x1, .int x2]) ++ List.replicate (4 - (lg_sl ([.ref (q 2), .int x1, .int x2])).length) Slot.unset).toArray = ls at hl ⊢
  have hl : lv_has ls 4 [(0, .ref (q 2)), (1, .int x1), (2, .int x2)] := hl
  show GoI p l e rmX3_holdAt s m _ below meth c r (F0 m 0 ls [])
  unfold pX3_holdAt at h
  refine lv_iconst (v := 0) hx hb dX3_holdAt_0 (by decide) ?_
  refine lv_istore_n (lv' := [(3, .int 0), (0, .ref (q 2)), (1, .int x1), (2, .int x2)]) hx hb dX3_holdAt_1 rfl hl (by decide) rfl (fun ls hl => ?_)
  exact wX3_holdAt_2 bx hP hK FU x1 x2 0 h _ (lv_sub hl [1, 2, 3, 0] rfl)

def rmX3_lastKeptBy : Room := { frames := 1, cells := 0, slots := 0, locals := 21 }

theorem in_wsX3_lastKeptBy_X3 : ∀ w ∈ u_ws RX3 TX3 5, w ∈ wsX3_lastKeptBy := by decide +kernel

set_option maxHeartbeats 4000000 in
set_option maxRecDepth 100000 in
theorem wX3_lastKeptBy_64 {p : Program} {l : Launch} {e : Env} {s : State} {m : MethodId} {args : Array Value} {below : List Frame} {meth : Method} {c : Code} {G : GT} {q : Nat → Nat} {C : St} {out : Int32} (bx : BX p RX3 wsX3_lastKeptBy cX3_lastKeptBy 7 (some .int) s m args meth c) (hP : va_P G.1 vwCl (CW G q C) s.heap) (hK : CK G s) {k8 : St → Int32 → Int32 → Int32 → Int32 → Option (Int32)} (hk8 : ∀ (x2 : Int32) (x3 : Int32) (x4 : Int32) (x5 : Int32), k8 C x2 x3 x4 x5 = some out → ∀ (ls : Array Slot), lv_has ls 7 [(0, .ref (q 2)), (2, .int x2), (3, .int x3), (4, .int x4), (5, .int x5)] → GoI p l e rmX3_lastKeptBy s m args below meth c out (F0 m 8 ls [])) (x2 : Int32) (x3 : Int32) (x4 : Int32) (x5 : Int32) (h : pX3_lastKeptBy_64 k8 C x2 x3 x4 x5 = some out) (ls : Array Slot) (hl : lv_has ls 7 [(0, .ref (q 2)), (2, .int x2), (3, .int x3), (4, .int x4), (5, .int x5)]) : GoI p l e rmX3_lastKeptBy s m args below meth c out (F0 m 64 ls []) := by
  obtain ⟨hx, hb, hr, hts, hown, hml, hlocks⟩ := id bx
  unfold pX3_lastKeptBy_64 at h
  obtain ⟨v_3, ev_3, h⟩ := ltv_ex h
  refine lv_iinc (v := v_3) (lv' := [(5, .int v_3), (0, .ref (q 2)), (2, .int x2), (3, .int x3), (4, .int x4)]) hx hb dX3_lastKeptBy_64 hl (k := 4) rfl (by rw [ev_3]; rfl) (by decide) rfl (fun ls hl => ?_)
  refine lv_goto (tgt := 8) hx hb dX3_lastKeptBy_67 (by decide) ?_
  exact hk8 x2 x3 x4 v_3 h _ (lv_sub hl [1, 2, 3, 4, 0] rfl)

set_option maxHeartbeats 4000000 in
set_option maxRecDepth 100000 in
theorem wX3_lastKeptBy_8_b {p : Program} {l : Launch} {e : Env} {s : State} {m : MethodId} {args : Array Value} {below : List Frame} {meth : Method} {c : Code} {G : GT} {q : Nat → Nat} {C : St} {out : Int32} (bx : BX p RX3 wsX3_lastKeptBy cX3_lastKeptBy 7 (some .int) s m args meth c) (hP : va_P G.1 vwCl (CW G q C) s.heap) (hK : CK G s) {k8 : St → Int32 → Int32 → Int32 → Int32 → Option (Int32)} (hk8 : ∀ (x2 : Int32) (x3 : Int32) (x4 : Int32) (x5 : Int32), k8 C x2 x3 x4 x5 = some out → ∀ (ls : Array Slot), lv_has ls 7 [(0, .ref (q 2)), (2, .int x2), (3, .int x3), (4, .int x4), (5, .int x5)] → GoI p l e rmX3_lastKeptBy s m args below meth c out (F0 m 8 ls [])) (x2 : Int32) (x3 : Int32) (x4 : Int32) (x5 : Int32) (h : pX3_lastKeptBy_8_b k8 C x2 x3 x4 x5 = some out) (ls : Array Slot) (hl : lv_has ls 7 [(0, .ref (q 2)), (2, .int x2), (3, .int x3), (4, .int x4), (5, .int x5)]) : GoI p l e rmX3_lastKeptBy s m args below meth c out (F0 m 8 ls []) := by
  obtain ⟨hx, hb, hr, hts, hown, hml, hlocks⟩ := id bx
  unfold pX3_lastKeptBy_8_b at h
  refine lv_iload hx hb dX3_lastKeptBy_8 (lv_at hl 4 rfl) ?_
  refine lv_aload_n hx hb dX3_lastKeptBy_10 rfl (lv_at hl 0 rfl) ?_
  refine va_get (D := G.1) (ci := 3) (v := .int (C.1 5)) (C := RX3) (T := TX3) (N := 5) hx hb hts in_wsX3_lastKeptBy_X3 hown hK.1 hP 2 rfl rfl 4 (by decide) (w_mem hts 1 rfl) (fun _ h9 => h9) rfl dX3_lastKeptBy_11 ?_
  refine lv_icmp_ge (tgt := 70) hx hb dX3_lastKeptBy_14 (by decide) (fun c_14 => ?_) (fun c_14 => ?_)
  · have h := br_T h c_14
    refine lv_iconst (v := (-1)) hx hb dX3_lastKeptBy_70 (by decide) ?_
    exact GoI.end hx hb hr hlocks dX3_lastKeptBy_71 rfl h
  · have h := br_F h c_14
    refine lv_aload_n hx hb dX3_lastKeptBy_17 rfl (lv_at hl 0 rfl) ?_
    refine va_get (D := G.1) (ci := 3) (v := .ref (q 10)) (C := RX3) (T := TX3) (N := 5) hx hb hts in_wsX3_lastKeptBy_X3 hown hK.1 hP 2 rfl rfl 0 (by decide) (w_mem hts 2 rfl) (fun _ h9 => h9) rfl dX3_lastKeptBy_18 ?_
    refine lv_iload hx hb dX3_lastKeptBy_21 (lv_at hl 4 rfl) ?_
    obtain ⟨g23, h⟩ := gd_ex h
    refine va_iald (D := G.1) hx hb hK.1 hP 10 0 rfl rfl g23 dX3_lastKeptBy_23 ?_
    refine lv_iload_n hx hb dX3_lastKeptBy_24 rfl (lv_at hl 2 rfl) ?_
    refine lv_iconst (v := (-1)) hx hb dX3_lastKeptBy_25 (by decide) ?_
    refine lv_ixor hx hb dX3_lastKeptBy_26 ?_
    refine lv_iand hx hb dX3_lastKeptBy_27 ?_
    refine lv_aload_n hx hb dX3_lastKeptBy_28 rfl (lv_at hl 0 rfl) ?_
    refine va_get (D := G.1) (ci := 3) (v := .ref (q 11)) (C := RX3) (T := TX3) (N := 5) hx hb hts in_wsX3_lastKeptBy_X3 hown hK.1 hP 2 rfl rfl 1 (by decide) (w_mem hts 3 rfl) (fun _ h9 => h9) rfl dX3_lastKeptBy_29 ?_
    refine lv_iload hx hb dX3_lastKeptBy_32 (lv_at hl 4 rfl) ?_
    obtain ⟨g34, h⟩ := gd_ex h
    refine va_iald (D := G.1) hx hb hK.1 hP 11 0 rfl rfl g34 dX3_lastKeptBy_34 ?_
    refine lv_iload_n hx hb dX3_lastKeptBy_35 rfl (lv_at hl 1 rfl) ?_
    refine lv_iconst (v := (-1)) hx hb dX3_lastKeptBy_36 (by decide) ?_
    refine lv_ixor hx hb dX3_lastKeptBy_37 ?_
    refine lv_iand hx hb dX3_lastKeptBy_38 ?_
    refine lv_ior hx hb dX3_lastKeptBy_39 ?_
    refine lv_topi (fun v_2 ev_2 => ?_)
    have h := ltv_at h v_2 ev_2
    refine lv_istore (lv' := [(6, .int v_2), (0, .ref (q 2)), (2, .int x2), (3, .int x3), (4, .int x4), (5, .int x5)]) hx hb dX3_lastKeptBy_40 hl (by decide) rfl (fun ls hl => ?_)
    refine lv_iload hx hb dX3_lastKeptBy_42 (lv_at hl 0 rfl) ?_
    refine lv_iload hx hb dX3_lastKeptBy_44 (lv_at hl 4 rfl) ?_
    refine lv_icmp_ne (tgt := 64) hx hb dX3_lastKeptBy_46 (by decide) (fun c_46 => ?_) (fun c_46 => ?_)
    · have h := br_F h c_46
      exact wX3_lastKeptBy_64 bx hP hK hk8 x2 x3 x4 x5 h _ (lv_sub hl [1, 2, 3, 4, 5] rfl)
    · have h := br_T h c_46
      refine lv_aload_n hx hb dX3_lastKeptBy_49 rfl (lv_at hl 1 rfl) ?_
      refine va_get (D := G.1) (ci := 3) (v := .int (C.1 4)) (C := RX3) (T := TX3) (N := 5) hx hb hts in_wsX3_lastKeptBy_X3 hown hK.1 hP 2 rfl rfl 3 (by decide) (w_mem hts 4 rfl) (fun _ h9 => h9) rfl dX3_lastKeptBy_50 ?_
      refine lv_iload hx hb dX3_lastKeptBy_53 (lv_at hl 5 rfl) ?_
      obtain ⟨r_4, hr_4, h⟩ := bd_ex h
      refine ro_i (va_runSN (As := [.int (C.1 4), .int x5]) (rest := []) ⟨hx, hb, hml, hown, hts⟩ (kX6_has l G q C (C.1 4) x5 r_4 hr_4) ⟨va_cnB 2 hts gX3_lastKeptBy_X6_has_n28 rfl rfl rfl (hK.2.nw 17 rfl) (w_mem hts 6 rfl) (by decide +kernel) ⟨Nat.le_of_ble_eq_true rfl, Nat.le_of_ble_eq_true rfl⟩, (w_mem hts 5 rfl), trivial⟩ (roS hP hK) rfl rfl hl.1 rfl (lv_room (Nat.le_of_ble_eq_true rfl)) dX3_lastKeptBy_55 ⟨Nat.zero_le _, Nat.zero_le _⟩) ?_
      refine lv_if_eq (tgt := 64) hx hb dX3_lastKeptBy_58 (by decide) (fun c_58 => ?_) (fun c_58 => ?_)
      · have h := br_T h c_58
        exact wX3_lastKeptBy_64 bx hP hK hk8 x2 x3 x4 x5 h _ (lv_sub hl [1, 2, 3, 4, 5] rfl)
      · have h := br_F h c_58
        refine lv_iload hx hb dX3_lastKeptBy_61 (lv_at hl 5 rfl) ?_
        exact GoI.end hx hb hr hlocks dX3_lastKeptBy_63 rfl h

theorem wX3_lastKeptBy_8 {p : Program} {l : Launch} {e : Env} {s : State} {m : MethodId} {args : Array Value} {below : List Frame} {meth : Method} {c : Code} {G : GT} {q : Nat → Nat} {C : St} {out : Int32} (bx : BX p RX3 wsX3_lastKeptBy cX3_lastKeptBy 7 (some .int) s m args meth c) (hP : va_P G.1 vwCl (CW G q C) s.heap) (hK : CK G s) :
    ∀ (n : Nat) (x2 : Int32) (x3 : Int32) (x4 : Int32) (x5 : Int32), pX3_lastKeptBy_8 n C x2 x3 x4 x5 = some out → ∀ (ls : Array Slot), lv_has ls 7 [(0, .ref (q 2)), (2, .int x2), (3, .int x3), (4, .int x4), (5, .int x5)] → GoI p l e rmX3_lastKeptBy s m args below meth c out (F0 m 8 ls []) := by
  intro n
  induction n with
  | zero => intro _ _ _ _ h; cases h
  | succ n ih => exact fun a0 a1 a2 a3 h ls hl => wX3_lastKeptBy_8_b bx hP hK ih a0 a1 a2 a3 h ls hl

set_option maxHeartbeats 4000000 in
set_option maxRecDepth 100000 in
theorem kX3_lastKeptBy (l : Launch) (G : GT) (q : Nat → Nat) (C : St) (x1 : Int32) (x2 : Int32) (x3 : Int32) (r : Int32) (h : pX3_lastKeptBy C x1 x2 x3 = some r) : Met l yX3_lastKeptBy wsX3_lastKeptBy rmX3_lastKeptBy (va_Pc [.ref (q 2), .int x1, .int x2, .int x3] (roP G (CW G q C))) (vp_Si (fun v => v = r)) 0 0 (fun _ => False) := by
  refine Met.ofW (cc := cX3_lastKeptBy) (maxL := 7) (ret := (some .int)) (by decide) rfl ?_
  intro p e s m args below meth c s₁ B hml hv
  obtain ⟨rfl, hP, hK⟩ := hv
  have bx := bx_of B hml
  obtain ⟨hx, hb, hr, hts, hown, hml, hlocks⟩ := id bx
  have hl := lv_entry ([.ref (q 2), .int x1, .int x2, .int x3]) (n := 7) (Nat.le_of_ble_eq_true rfl)
  rw [lg_entry_eq]
  generalize (lg_sl ([.ref (q 2), .int x1, .int x2, .int x3]) ++ List.replicate (7 - (lg_sl ([.ref (q 2), .int x1, .int x2, .int x3])).length) Slot.unset).toArray = ls at hl ⊢
  have hl : lv_has ls 7 [(0, .ref (q 2)), (1, .int x1), (2, .int x2), (3, .int x3)] := hl
  show GoI p l e rmX3_lastKeptBy s m _ below meth c r (F0 m 0 ls [])
  unfold pX3_lastKeptBy at h
  refine lv_iconst (v := 1) hx hb dX3_lastKeptBy_0 (by decide) ?_
  refine lv_iload_n hx hb dX3_lastKeptBy_1 rfl (lv_at hl 1 rfl) ?_
  refine lv_ishl hx hb dX3_lastKeptBy_2 ?_
  refine lv_topi (fun v_1 ev_1 => ?_)
  have h := ltv_at h v_1 ev_1
  refine lv_istore (lv' := [(4, .int v_1), (0, .ref (q 2)), (1, .int x1), (2, .int x2), (3, .int x3)]) hx hb dX3_lastKeptBy_3 hl (by decide) rfl (fun ls hl => ?_)
  refine lv_iconst (v := 0) hx hb dX3_lastKeptBy_5 (by decide) ?_
  refine lv_istore (lv' := [(5, .int 0), (4, .int v_1), (0, .ref (q 2)), (1, .int x1), (2, .int x2), (3, .int x3)]) hx hb dX3_lastKeptBy_6 hl (by decide) rfl (fun ls hl => ?_)
  exact wX3_lastKeptBy_8 bx hP hK FU x2 x3 v_1 0 h _ (lv_sub hl [2, 4, 5, 1, 0] rfl)

def rmX4_canTake : Room := { frames := 2, cells := 0, slots := 0, locals := 45 }

set_option maxHeartbeats 4000000 in
set_option maxRecDepth 100000 in
theorem kX4_canTake (l : Launch) (G : GT) (q : Nat → Nat) (C : St) (x2 : Int32) (x3 : Int32) (x4 : Int32) (r : Int32) (h : pX4_canTake C x2 x3 x4 = some r) : Met l yX4_canTake wsX4_canTake rmX4_canTake (va_Pc [.ref (q 1), .ref (q 2), .int x2, .int x3, .int x4] (roP G (CW G q C))) (vp_Si (fun v => v = r)) 0 0 (fun _ => False) := by
  refine Met.ofW (cc := cX4_canTake) (maxL := 5) (ret := (some .boolean)) (by decide) rfl ?_
  intro p e s m args below meth c s₁ B hml hv
  obtain ⟨rfl, hP, hK⟩ := hv
  have bx := bx_of B hml
  obtain ⟨hx, hb, hr, hts, hown, hml, hlocks⟩ := id bx
  have hl := lv_entry ([.ref (q 1), .ref (q 2), .int x2, .int x3, .int x4]) (n := 5) (Nat.le_of_ble_eq_true rfl)
  rw [lg_entry_eq]
  generalize (lg_sl ([.ref (q 1), .ref (q 2), .int x2, .int x3, .int x4]) ++ List.replicate (5 - (lg_sl ([.ref (q 1), .ref (q 2), .int x2, .int x3, .int x4])).length) Slot.unset).toArray = ls at hl ⊢
  have hl : lv_has ls 5 [(0, .ref (q 1)), (1, .ref (q 2)), (2, .int x2), (3, .int x3), (4, .int x4)] := hl
  show GoI p l e rmX4_canTake s m _ below meth c r (F0 m 0 ls [])
  unfold pX4_canTake at h
  refine lv_iload hx hb dX4_canTake_0 (lv_at hl 4 rfl) ?_
  refine lv_iload_n hx hb dX4_canTake_2 rfl (lv_at hl 2 rfl) ?_
  obtain ⟨r_1, hr_1, h⟩ := bd_ex h
  refine ro_i (va_runSN (As := [.int x4, .int x2]) (rest := []) ⟨hx, hb, hml, hown, hts⟩ (kX6_has l G q C x4 x2 r_1 hr_1) ⟨va_cnB 2 hts gX4_canTake_X6_has_n42 rfl rfl rfl (hK.2.nw 18 rfl) (w_mem hts 2 rfl) (by decide +kernel) ⟨Nat.le_of_ble_eq_true rfl, Nat.le_of_ble_eq_true rfl⟩, (w_mem hts 1 rfl), trivial⟩ (roS hP hK) rfl rfl hl.1 rfl (lv_room (Nat.le_of_ble_eq_true rfl)) dX4_canTake_3 ⟨Nat.zero_le _, Nat.zero_le _⟩) ?_
  refine lv_if_ne (tgt := 35) hx hb dX4_canTake_6 (by decide) (fun c_6 => ?_) (fun c_6 => ?_)
  · have h := br_F h c_6
    refine lv_iconst (v := 0) hx hb dX4_canTake_35 (by decide) ?_
    exact GoI.end hx hb hr hlocks dX4_canTake_36 rfl h
  · have h := br_T h c_6
    refine lv_aload_n hx hb dX4_canTake_9 rfl (lv_at hl 0 rfl) ?_
    refine lv_iload_n hx hb dX4_canTake_10 rfl (lv_at hl 2 rfl) ?_
    refine lv_iload_n hx hb dX4_canTake_11 rfl (lv_at hl 3 rfl) ?_
    obtain ⟨r_2, hr_2, h⟩ := bd_ex h
    refine ro_i (va_runVN (As := [.int x2, .int x3]) (rest := []) ⟨hx, hb, hml, hown, hts⟩ (kX5_mayBeIn l G q C x2 x3 r_2 hr_2) ⟨va_cnB 2 hts gX4_canTake_X5_mayBeIn_n46 rfl rfl rfl (hK.2.nw 19 rfl) (w_mem hts 5 rfl) (by decide +kernel) ⟨Nat.le_of_ble_eq_true rfl, Nat.le_of_ble_eq_true rfl⟩, (w_mem hts 4 rfl), (w_mem hts 6 rfl)⟩ (roV hP hK 4 1 rfl rfl) rfl rfl hl.1 rfl (lv_room (Nat.le_of_ble_eq_true rfl)) dX4_canTake_12 ⟨Nat.zero_le _, Nat.zero_le _⟩) ?_
    refine lv_if_eq (tgt := 35) hx hb dX4_canTake_15 (by decide) (fun c_15 => ?_) (fun c_15 => ?_)
    · have h := br_T h c_15
      refine lv_iconst (v := 0) hx hb dX4_canTake_35 (by decide) ?_
      exact GoI.end hx hb hr hlocks dX4_canTake_36 rfl h
    · have h := br_F h c_15
      refine lv_aload_n hx hb dX4_canTake_18 rfl (lv_at hl 1 rfl) ?_
      refine lv_iload_n hx hb dX4_canTake_19 rfl (lv_at hl 2 rfl) ?_
      refine lv_iload_n hx hb dX4_canTake_20 rfl (lv_at hl 3 rfl) ?_
      refine lv_iconst (v := 1) hx hb dX4_canTake_21 (by decide) ?_
      refine lv_iload_n hx hb dX4_canTake_22 rfl (lv_at hl 2 rfl) ?_
      refine lv_ishl hx hb dX4_canTake_23 ?_
      refine lv_ior hx hb dX4_canTake_24 ?_
      obtain ⟨r_3, hr_3, h⟩ := bd_ex h
      refine ro_i (va_runVN (As := [.int x2, .int (x3 ||| ((1 : Int32) <<< (x2 &&& 31)))]) (rest := []) ⟨hx, hb, hml, hown, hts⟩ (kX3_holdAt l G q C x2 (x3 ||| ((1 : Int32) <<< (x2 &&& 31))) r_3 hr_3) ⟨va_cnB 2 hts gX4_canTake_X3_holdAt_n49 rfl rfl rfl (hK.2.nw 20 rfl) (w_mem hts 20 rfl) (by decide +kernel) ⟨Nat.le_of_ble_eq_true rfl, Nat.le_of_ble_eq_true rfl⟩, (w_mem hts 19 rfl), (w_mem hts 21 rfl)⟩ (roV hP hK 3 2 rfl rfl) rfl rfl hl.1 rfl (lv_room (Nat.le_of_ble_eq_true rfl)) dX4_canTake_25 ⟨Nat.zero_le _, Nat.zero_le _⟩) ?_
      refine lv_if_eq (tgt := 35) hx hb dX4_canTake_28 (by decide) (fun c_28 => ?_) (fun c_28 => ?_)
      · have h := br_T h c_28
        refine lv_iconst (v := 0) hx hb dX4_canTake_35 (by decide) ?_
        exact GoI.end hx hb hr hlocks dX4_canTake_36 rfl h
      · have h := br_F h c_28
        refine lv_iconst (v := 1) hx hb dX4_canTake_31 (by decide) ?_
        refine lv_goto (tgt := 36) hx hb dX4_canTake_32 (by decide) ?_
        exact GoI.end hx hb hr hlocks dX4_canTake_36 rfl h

def rmX4_canLeave : Room := { frames := 2, cells := 0, slots := 0, locals := 46 }

set_option maxHeartbeats 4000000 in
set_option maxRecDepth 100000 in
theorem kX4_canLeave (l : Launch) (G : GT) (q : Nat → Nat) (C : St) (x2 : Int32) (x3 : Int32) (x4 : Int32) (r : Int32) (h : pX4_canLeave C x2 x3 x4 = some r) : Met l yX4_canLeave wsX4_canLeave rmX4_canLeave (va_Pc [.ref (q 1), .ref (q 2), .int x2, .int x3, .int x4] (roP G (CW G q C))) (vp_Si (fun v => v = r)) 0 0 (fun _ => False) := by
  refine Met.ofW (cc := cX4_canLeave) (maxL := 5) (ret := (some .boolean)) (by decide) rfl ?_
  intro p e s m args below meth c s₁ B hml hv
  obtain ⟨rfl, hP, hK⟩ := hv
  have bx := bx_of B hml
  obtain ⟨hx, hb, hr, hts, hown, hml, hlocks⟩ := id bx
  have hl := lv_entry ([.ref (q 1), .ref (q 2), .int x2, .int x3, .int x4]) (n := 5) (Nat.le_of_ble_eq_true rfl)
  rw [lg_entry_eq]
  generalize (lg_sl ([.ref (q 1), .ref (q 2), .int x2, .int x3, .int x4]) ++ List.replicate (5 - (lg_sl ([.ref (q 1), .ref (q 2), .int x2, .int x3, .int x4])).length) Slot.unset).toArray = ls at hl ⊢
  have hl : lv_has ls 5 [(0, .ref (q 1)), (1, .ref (q 2)), (2, .int x2), (3, .int x3), (4, .int x4)] := hl
  show GoI p l e rmX4_canLeave s m _ below meth c r (F0 m 0 ls [])
  unfold pX4_canLeave at h
  refine lv_iload hx hb dX4_canLeave_0 (lv_at hl 4 rfl) ?_
  refine lv_iload_n hx hb dX4_canLeave_2 rfl (lv_at hl 2 rfl) ?_
  obtain ⟨r_1, hr_1, h⟩ := bd_ex h
  refine ro_i (va_runSN (As := [.int x4, .int x2]) (rest := []) ⟨hx, hb, hml, hown, hts⟩ (kX6_has l G q C x4 x2 r_1 hr_1) ⟨va_cnB 2 hts gX4_canLeave_X6_has_n42 rfl rfl rfl (hK.2.nw 18 rfl) (w_mem hts 2 rfl) (by decide +kernel) ⟨Nat.le_of_ble_eq_true rfl, Nat.le_of_ble_eq_true rfl⟩, (w_mem hts 1 rfl), trivial⟩ (roS hP hK) rfl rfl hl.1 rfl (lv_room (Nat.le_of_ble_eq_true rfl)) dX4_canLeave_3 ⟨Nat.zero_le _, Nat.zero_le _⟩) ?_
  refine lv_if_ne (tgt := 31) hx hb dX4_canLeave_6 (by decide) (fun c_6 => ?_) (fun c_6 => ?_)
  · have h := br_F h c_6
    refine lv_iconst (v := 0) hx hb dX4_canLeave_31 (by decide) ?_
    exact GoI.end hx hb hr hlocks dX4_canLeave_32 rfl h
  · have h := br_T h c_6
    refine lv_aload_n hx hb dX4_canLeave_9 rfl (lv_at hl 0 rfl) ?_
    refine lv_iload_n hx hb dX4_canLeave_10 rfl (lv_at hl 2 rfl) ?_
    refine lv_iload_n hx hb dX4_canLeave_11 rfl (lv_at hl 3 rfl) ?_
    obtain ⟨r_2, hr_2, h⟩ := bd_ex h
    refine ro_i (va_runVN (As := [.int x2, .int x3]) (rest := []) ⟨hx, hb, hml, hown, hts⟩ (kX5_mayBeOut l G q C x2 x3 r_2 hr_2) ⟨va_cnB 2 hts gX4_canLeave_X5_mayBeOut_n54 rfl rfl rfl (hK.2.nw 21 rfl) (w_mem hts 5 rfl) (by decide +kernel) ⟨Nat.le_of_ble_eq_true rfl, Nat.le_of_ble_eq_true rfl⟩, (w_mem hts 4 rfl), (w_mem hts 6 rfl)⟩ (roV hP hK 4 1 rfl rfl) rfl rfl hl.1 rfl (lv_room (Nat.le_of_ble_eq_true rfl)) dX4_canLeave_12 ⟨Nat.zero_le _, Nat.zero_le _⟩) ?_
    refine lv_if_eq (tgt := 31) hx hb dX4_canLeave_15 (by decide) (fun c_15 => ?_) (fun c_15 => ?_)
    · have h := br_T h c_15
      refine lv_iconst (v := 0) hx hb dX4_canLeave_31 (by decide) ?_
      exact GoI.end hx hb hr hlocks dX4_canLeave_32 rfl h
    · have h := br_F h c_15
      refine lv_aload_n hx hb dX4_canLeave_18 rfl (lv_at hl 1 rfl) ?_
      refine lv_iload_n hx hb dX4_canLeave_19 rfl (lv_at hl 2 rfl) ?_
      refine lv_iload_n hx hb dX4_canLeave_20 rfl (lv_at hl 3 rfl) ?_
      obtain ⟨r_3, hr_3, h⟩ := bd_ex h
      refine ro_i (va_runVN (As := [.int x2, .int x3]) (rest := []) ⟨hx, hb, hml, hown, hts⟩ (kX3_holdAt l G q C x2 x3 r_3 hr_3) ⟨va_cnB 2 hts gX4_canLeave_X3_holdAt_n49 rfl rfl rfl (hK.2.nw 20 rfl) (w_mem hts 20 rfl) (by decide +kernel) ⟨Nat.le_of_ble_eq_true rfl, Nat.le_of_ble_eq_true rfl⟩, (w_mem hts 19 rfl), (w_mem hts 21 rfl)⟩ (roV hP hK 3 2 rfl rfl) rfl rfl hl.1 rfl (lv_room (Nat.le_of_ble_eq_true rfl)) dX4_canLeave_21 ⟨Nat.zero_le _, Nat.zero_le _⟩) ?_
      refine lv_if_eq (tgt := 31) hx hb dX4_canLeave_24 (by decide) (fun c_24 => ?_) (fun c_24 => ?_)
      · have h := br_T h c_24
        refine lv_iconst (v := 0) hx hb dX4_canLeave_31 (by decide) ?_
        exact GoI.end hx hb hr hlocks dX4_canLeave_32 rfl h
      · have h := br_F h c_24
        refine lv_iconst (v := 1) hx hb dX4_canLeave_27 (by decide) ?_
        refine lv_goto (tgt := 32) hx hb dX4_canLeave_28 (by decide) ?_
        exact GoI.end hx hb hr hlocks dX4_canLeave_32 rfl h
