def rmX7_isDecided : Room := { frames := 1, cells := 0, slots := 0, locals := 21 }

theorem in_wsX7_isDecided_X7 : ∀ w ∈ u_ws RX7 TX7 24, w ∈ wsX7_isDecided := by decide +kernel

set_option maxHeartbeats 4000000 in
set_option maxRecDepth 100000 in
theorem kX7_isDecided (l : Launch) (G : GT) (q : Nat → Nat) (C : St) (x1 : Int32) (r : Int32) (h : pX7_isDecided C x1 = some r) : Met l yX7_isDecided wsX7_isDecided rmX7_isDecided (va_Pc [.ref (q 0), .int x1] (roP G (MW G q C))) (vp_Si (fun v => v = r)) 0 0 (fun _ => False) := by
  refine Met.ofW (cc := cX7_isDecided) (maxL := 2) (ret := (some .boolean)) (by decide) rfl ?_
  intro p e s m args below meth c s₁ B hml hv
  obtain ⟨rfl, hP, hK⟩ := hv
  have bx := bx_of B hml
  obtain ⟨hx, hb, hr, hts, hown, hml, hlocks⟩ := id bx
  have hl := lv_entry ([.ref (q 0), .int x1]) (n := 2) (Nat.le_of_ble_eq_true rfl)
  rw [lg_entry_eq]
  generalize (lg_sl ([.ref (q 0), .int x1]) ++ List.replicate (2 - (lg_sl ([.ref (q 0), .int x1])).length) Slot.unset).toArray = ls at hl ⊢
  have hl : lv_has ls 2 [(0, .ref (q 0)), (1, .int x1)] := hl
  show GoI p l e rmX7_isDecided s m _ below meth c r (F0 m 0 ls [])
  unfold pX7_isDecided at h
  refine lv_aload_n hx hb dX7_isDecided_0 rfl (lv_at hl 0 rfl) ?_
  refine va_get (D := G.1) (ci := 8) (v := .int (C.1 3)) (C := RX7) (T := TX7) (N := 24) hx hb hts in_wsX7_isDecided_X7 hown hK.1 hP 0 rfl rfl 19 (by decide) (w_mem hts 1 rfl) (fun _ h9 => h9) rfl dX7_isDecided_1 ?_
  refine lv_aload_n hx hb dX7_isDecided_4 rfl (lv_at hl 0 rfl) ?_
  refine va_get (D := G.1) (ci := 8) (v := .int (C.1 4)) (C := RX7) (T := TX7) (N := 24) hx hb hts in_wsX7_isDecided_X7 hown hK.1 hP 0 rfl rfl 20 (by decide) (w_mem hts 2 rfl) (fun _ h9 => h9) rfl dX7_isDecided_5 ?_
  refine lv_ior hx hb dX7_isDecided_8 ?_
  refine lv_iload_n hx hb dX7_isDecided_9 rfl (lv_at hl 1 rfl) ?_
  obtain ⟨r_1, hr_1, h⟩ := bd_ex h
  refine ro_i (va_runS (As := [.int ((C.1 3) ||| (C.1 4)), .int x1]) (rest := []) ⟨hx, hb, hml, hown, hts⟩ (kX7_has l G q C ((C.1 3) ||| (C.1 4)) x1 r_1 hr_1) (va_cwS 2 hts gX7_isDecided_X7_has rfl rfl rfl (by decide +kernel) ⟨Nat.le_of_ble_eq_true rfl, Nat.le_of_ble_eq_true rfl⟩) (roS hP hK) rfl rfl hl.1 rfl (lv_room (Nat.le_of_ble_eq_true rfl)) dX7_isDecided_10 ⟨Nat.zero_le _, Nat.zero_le _⟩) ?_
  obtain ⟨g13, h⟩ := gd_ex h
  exact GoI.end hx hb hr hlocks dX7_isDecided_13 (okZ_n g13) h

def rmX7_children : Room := { frames := 1, cells := 0, slots := 0, locals := 21 }

theorem in_wsX7_children_X7 : ∀ w ∈ u_ws RX7 TX7 24, w ∈ wsX7_children := by decide +kernel

set_option maxHeartbeats 4000000 in
set_option maxRecDepth 100000 in
theorem wX7_children_62 {p : Program} {l : Launch} {e : Env} {s : State} {m : MethodId} {args : Array Value} {below : List Frame} {meth : Method} {c : Code} {G : GT} {q : Nat → Nat} {C : St} {out : Int32} (bx : BX p RX7 wsX7_children cX7_children 5 (some .int) s m args meth c) (hP : va_P G.1 vwCl (MW G q C) s.heap) (hK : CK G s) {k5 : St → Int32 → Int32 → Int32 → Int32 → Option (Int32)} (hk5 : ∀ (x1 : Int32) (x2 : Int32) (x3 : Int32) (x4 : Int32), k5 C x1 x2 x3 x4 = some out → ∀ (ls : Array Slot), lv_has ls 5 [(0, .ref (q 0)), (1, .int x1), (2, .int x2), (3, .int x3), (4, .int x4)] → GoI p l e rmX7_children s m args below meth c out (F0 m 5 ls [])) (x1 : Int32) (x2 : Int32) (x4 : Int32) (t0 : Int32) (t1 : Int32) (h : pX7_children_62 k5 C x1 x2 x4 t0 t1 = some out) (ls : Array Slot) (hl : lv_has ls 5 [(0, .ref (q 0)), (1, .int x1), (2, .int x2), (4, .int x4)]) : GoI p l e rmX7_children s m args below meth c out (F0 m 62 ls [.int t1, .int t0]) := by
  obtain ⟨hx, hb, hr, hts, hown, hml, hlocks⟩ := id bx
  unfold pX7_children_62 at h
  refine lv_iadd hx hb dX7_children_62 ?_
  refine lv_topi (fun v_1 ev_1 => ?_)
  have h := ltv_at h v_1 ev_1
  refine lv_istore_n (lv' := [(3, .int v_1), (0, .ref (q 0)), (1, .int x1), (2, .int x2), (4, .int x4)]) hx hb dX7_children_63 rfl hl (by decide) rfl (fun ls hl => ?_)
  obtain ⟨v_2, ev_2, h⟩ := ltv_ex h
  refine lv_iinc (v := v_2) (lv' := [(4, .int v_2), (3, .int v_1), (0, .ref (q 0)), (1, .int x1), (2, .int x2)]) hx hb dX7_children_64 hl (k := 4) rfl (by rw [ev_2]; rfl) (by decide) rfl (fun ls hl => ?_)
  refine lv_goto (tgt := 5) hx hb dX7_children_67 (by decide) ?_
  exact hk5 x1 x2 v_1 v_2 h _ (lv_sub hl [2, 3, 4, 1, 0] rfl)

set_option maxHeartbeats 4000000 in
set_option maxRecDepth 100000 in
theorem wX7_children_61 {p : Program} {l : Launch} {e : Env} {s : State} {m : MethodId} {args : Array Value} {below : List Frame} {meth : Method} {c : Code} {G : GT} {q : Nat → Nat} {C : St} {out : Int32} (bx : BX p RX7 wsX7_children cX7_children 5 (some .int) s m args meth c) (hP : va_P G.1 vwCl (MW G q C) s.heap) (hK : CK G s) {k5 : St → Int32 → Int32 → Int32 → Int32 → Option (Int32)} (hk5 : ∀ (x1 : Int32) (x2 : Int32) (x3 : Int32) (x4 : Int32), k5 C x1 x2 x3 x4 = some out → ∀ (ls : Array Slot), lv_has ls 5 [(0, .ref (q 0)), (1, .int x1), (2, .int x2), (3, .int x3), (4, .int x4)] → GoI p l e rmX7_children s m args below meth c out (F0 m 5 ls [])) (x1 : Int32) (x2 : Int32) (x4 : Int32) (t0 : Int32) (h : pX7_children_61 k5 C x1 x2 x4 t0 = some out) (ls : Array Slot) (hl : lv_has ls 5 [(0, .ref (q 0)), (1, .int x1), (2, .int x2), (4, .int x4)]) : GoI p l e rmX7_children s m args below meth c out (F0 m 61 ls [.int t0]) := by
  obtain ⟨hx, hb, hr, hts, hown, hml, hlocks⟩ := id bx
  unfold pX7_children_61 at h
  refine lv_iconst (v := 0) hx hb dX7_children_61 (by decide) ?_
  exact wX7_children_62 bx hP hK hk5 x1 x2 x4 t0 0 h _ (lv_sub hl [0, 1, 2, 3] rfl)

set_option maxHeartbeats 4000000 in
set_option maxRecDepth 100000 in
theorem wX7_children_57 {p : Program} {l : Launch} {e : Env} {s : State} {m : MethodId} {args : Array Value} {below : List Frame} {meth : Method} {c : Code} {G : GT} {q : Nat → Nat} {C : St} {out : Int32} (bx : BX p RX7 wsX7_children cX7_children 5 (some .int) s m args meth c) (hP : va_P G.1 vwCl (MW G q C) s.heap) (hK : CK G s) {k5 : St → Int32 → Int32 → Int32 → Int32 → Option (Int32)} (hk5 : ∀ (x1 : Int32) (x2 : Int32) (x3 : Int32) (x4 : Int32), k5 C x1 x2 x3 x4 = some out → ∀ (ls : Array Slot), lv_has ls 5 [(0, .ref (q 0)), (1, .int x1), (2, .int x2), (3, .int x3), (4, .int x4)] → GoI p l e rmX7_children s m args below meth c out (F0 m 5 ls [])) (x1 : Int32) (x2 : Int32) (x4 : Int32) (t0 : Int32) (h : pX7_children_57 k5 C x1 x2 x4 t0 = some out) (ls : Array Slot) (hl : lv_has ls 5 [(0, .ref (q 0)), (1, .int x1), (2, .int x2), (4, .int x4)]) : GoI p l e rmX7_children s m args below meth c out (F0 m 57 ls [.int t0]) := by
  obtain ⟨hx, hb, hr, hts, hown, hml, hlocks⟩ := id bx
  unfold pX7_children_57 at h
  refine lv_iconst (v := 1) hx hb dX7_children_57 (by decide) ?_
  refine lv_goto (tgt := 62) hx hb dX7_children_58 (by decide) ?_
  exact wX7_children_62 bx hP hK hk5 x1 x2 x4 t0 1 h _ (lv_sub hl [0, 1, 2, 3] rfl)

set_option maxHeartbeats 4000000 in
set_option maxRecDepth 100000 in
theorem wX7_children_5_b {p : Program} {l : Launch} {e : Env} {s : State} {m : MethodId} {args : Array Value} {below : List Frame} {meth : Method} {c : Code} {G : GT} {q : Nat → Nat} {C : St} {out : Int32} (bx : BX p RX7 wsX7_children cX7_children 5 (some .int) s m args meth c) (hP : va_P G.1 vwCl (MW G q C) s.heap) (hK : CK G s) {k5 : St → Int32 → Int32 → Int32 → Int32 → Option (Int32)} (hk5 : ∀ (x1 : Int32) (x2 : Int32) (x3 : Int32) (x4 : Int32), k5 C x1 x2 x3 x4 = some out → ∀ (ls : Array Slot), lv_has ls 5 [(0, .ref (q 0)), (1, .int x1), (2, .int x2), (3, .int x3), (4, .int x4)] → GoI p l e rmX7_children s m args below meth c out (F0 m 5 ls [])) (x1 : Int32) (x2 : Int32) (x3 : Int32) (x4 : Int32) (h : pX7_children_5_b k5 C x1 x2 x3 x4 = some out) (ls : Array Slot) (hl : lv_has ls 5 [(0, .ref (q 0)), (1, .int x1), (2, .int x2), (3, .int x3), (4, .int x4)]) : GoI p l e rmX7_children s m args below meth c out (F0 m 5 ls []) := by
  obtain ⟨hx, hb, hr, hts, hown, hml, hlocks⟩ := id bx
  unfold pX7_children_5_b at h
  refine lv_iload hx hb dX7_children_5 (lv_at hl 4 rfl) ?_
  refine lv_aload_n hx hb dX7_children_7 rfl (lv_at hl 0 rfl) ?_
  refine va_get (D := G.1) (ci := 8) (v := .int (C.1 0)) (C := RX7) (T := TX7) (N := 24) hx hb hts in_wsX7_children_X7 hown hK.1 hP 0 rfl rfl 16 (by decide) (w_mem hts 1 rfl) (fun _ h9 => h9) rfl dX7_children_8 ?_
  refine lv_icmp_ge (tgt := 70) hx hb dX7_children_11 (by decide) (fun c_11 => ?_) (fun c_11 => ?_)
  · have h := br_T h c_11
    refine lv_iload_n hx hb dX7_children_70 rfl (lv_at hl 3 rfl) ?_
    exact GoI.end hx hb hr hlocks dX7_children_71 rfl h
  · have h := br_F h c_11
    refine lv_iload_n hx hb dX7_children_14 rfl (lv_at hl 3 rfl) ?_
    refine lv_aload_n hx hb dX7_children_15 rfl (lv_at hl 0 rfl) ?_
    refine va_get (D := G.1) (ci := 8) (v := .ref (q 1)) (C := RX7) (T := TX7) (N := 24) hx hb hts in_wsX7_children_X7 hown hK.1 hP 0 rfl rfl 0 (by decide) (w_mem hts 2 rfl) (fun _ h9 => h9) rfl dX7_children_16 ?_
    refine lv_iload hx hb dX7_children_19 (lv_at hl 4 rfl) ?_
    obtain ⟨g21, h⟩ := gd_ex h
    refine va_iald (D := G.1) hx hb hK.1 hP 1 0 rfl rfl g21 dX7_children_21 ?_
    refine lv_iload_n hx hb dX7_children_22 rfl (lv_at hl 1 rfl) ?_
    refine lv_icmp_ne (tgt := 61) hx hb dX7_children_23 (by decide) (fun c_23 => ?_) (fun c_23 => ?_)
    · have h := br_F h c_23
      exact wX7_children_61 bx hP hK hk5 x1 x2 x4 x3 h _ (lv_sub hl [0, 1, 2, 4] rfl)
    · have h := br_T h c_23
      refine lv_iload_n hx hb dX7_children_26 rfl (lv_at hl 2 rfl) ?_
      refine lv_if_eq (tgt := 45) hx hb dX7_children_27 (by decide) (fun c_27 => ?_) (fun c_27 => ?_)
      · have h := br_T h c_27
        refine lv_aload_n hx hb dX7_children_45 rfl (lv_at hl 0 rfl) ?_
        refine va_get (D := G.1) (ci := 8) (v := .int (C.1 6)) (C := RX7) (T := TX7) (N := 24) hx hb hts in_wsX7_children_X7 hown hK.1 hP 0 rfl rfl 22 (by decide) (w_mem hts 4 rfl) (fun _ h9 => h9) rfl dX7_children_46 ?_
        refine lv_iload hx hb dX7_children_49 (lv_at hl 4 rfl) ?_
        obtain ⟨r_3, hr_3, h⟩ := bd_ex h
        refine ro_i (va_runS (As := [.int (C.1 6), .int x4]) (rest := [.int x3]) ⟨hx, hb, hml, hown, hts⟩ (kX7_has l G q C (C.1 6) x4 r_3 hr_3) (va_cwS 2 hts gX7_children_X7_has rfl rfl rfl (by decide +kernel) ⟨Nat.le_of_ble_eq_true rfl, Nat.le_of_ble_eq_true rfl⟩) (roS hP hK) rfl rfl hl.1 rfl (lv_room (Nat.le_of_ble_eq_true rfl)) dX7_children_51 ⟨Nat.zero_le _, Nat.zero_le _⟩) ?_
        refine lv_if_ne (tgt := 61) hx hb dX7_children_54 (by decide) (fun c_54 => ?_) (fun c_54 => ?_)
        · have h := br_F h c_54
          exact wX7_children_61 bx hP hK hk5 x1 x2 x4 x3 h _ (lv_sub hl [0, 1, 2, 4] rfl)
        · have h := br_T h c_54
          exact wX7_children_57 bx hP hK hk5 x1 x2 x4 x3 h _ (lv_sub hl [0, 1, 2, 4] rfl)
      · have h := br_F h c_27
        refine lv_aload_n hx hb dX7_children_30 rfl (lv_at hl 0 rfl) ?_
        refine va_get (D := G.1) (ci := 8) (v := .int (C.1 5)) (C := RX7) (T := TX7) (N := 24) hx hb hts in_wsX7_children_X7 hown hK.1 hP 0 rfl rfl 21 (by decide) (w_mem hts 3 rfl) (fun _ h9 => h9) rfl dX7_children_31 ?_
        refine lv_iload hx hb dX7_children_34 (lv_at hl 4 rfl) ?_
        obtain ⟨r_4, hr_4, h⟩ := bd_ex h
        refine ro_i (va_runS (As := [.int (C.1 5), .int x4]) (rest := [.int x3]) ⟨hx, hb, hml, hown, hts⟩ (kX7_has l G q C (C.1 5) x4 r_4 hr_4) (va_cwS 2 hts gX7_children_X7_has rfl rfl rfl (by decide +kernel) ⟨Nat.le_of_ble_eq_true rfl, Nat.le_of_ble_eq_true rfl⟩) (roS hP hK) rfl rfl hl.1 rfl (lv_room (Nat.le_of_ble_eq_true rfl)) dX7_children_36 ⟨Nat.zero_le _, Nat.zero_le _⟩) ?_
        refine lv_if_eq (tgt := 61) hx hb dX7_children_39 (by decide) (fun c_39 => ?_) (fun c_39 => ?_)
        · have h := br_T h c_39
          exact wX7_children_61 bx hP hK hk5 x1 x2 x4 x3 h _ (lv_sub hl [0, 1, 2, 4] rfl)
        · have h := br_F h c_39
          refine lv_goto (tgt := 57) hx hb dX7_children_42 (by decide) ?_
          exact wX7_children_57 bx hP hK hk5 x1 x2 x4 x3 h _ (lv_sub hl [0, 1, 2, 4] rfl)

theorem wX7_children_5 {p : Program} {l : Launch} {e : Env} {s : State} {m : MethodId} {args : Array Value} {below : List Frame} {meth : Method} {c : Code} {G : GT} {q : Nat → Nat} {C : St} {out : Int32} (bx : BX p RX7 wsX7_children cX7_children 5 (some .int) s m args meth c) (hP : va_P G.1 vwCl (MW G q C) s.heap) (hK : CK G s) :
    ∀ (n : Nat) (x1 : Int32) (x2 : Int32) (x3 : Int32) (x4 : Int32), pX7_children_5 n C x1 x2 x3 x4 = some out → ∀ (ls : Array Slot), lv_has ls 5 [(0, .ref (q 0)), (1, .int x1), (2, .int x2), (3, .int x3), (4, .int x4)] → GoI p l e rmX7_children s m args below meth c out (F0 m 5 ls []) := by
  intro n
  induction n with
  | zero => intro _ _ _ _ h; cases h
  | succ n ih => exact fun a0 a1 a2 a3 h ls hl => wX7_children_5_b bx hP hK ih a0 a1 a2 a3 h ls hl

set_option maxHeartbeats 4000000 in
set_option maxRecDepth 100000 in
theorem kX7_children (l : Launch) (G : GT) (q : Nat → Nat) (C : St) (x1 : Int32) (x2 : Int32) (r : Int32) (h : pX7_children C x1 x2 = some r) : Met l yX7_children wsX7_children rmX7_children (va_Pc [.ref (q 0), .int x1, .int x2] (roP G (MW G q C))) (vp_Si (fun v => v = r)) 0 0 (fun _ => False) := by
  refine Met.ofW (cc := cX7_children) (maxL := 5) (ret := (some .int)) (by decide) rfl ?_
  intro p e s m args below meth c s₁ B hml hv
  obtain ⟨rfl, hP, hK⟩ := hv
  have bx := bx_of B hml
  obtain ⟨hx, hb, hr, hts, hown, hml, hlocks⟩ := id bx
  have hl := lv_entry ([.ref (q 0), .int x1, .int x2]) (n := 5) (Nat.le_of_ble_eq_true rfl)
  rw [lg_entry_eq]
  generalize (lg_sl ([.ref (q 0), .int x1, .int x2]) ++ List.replicate (5 - (lg_sl ([.ref (q 0), .int x1, .int x2])).length) Slot.unset).toArray = ls at hl ⊢
  have hl : lv_has ls 5 [(0, .ref (q 0)), (1, .int x1), (2, .int x2)] := hl
  show GoI p l e rmX7_children s m _ below meth c r (F0 m 0 ls [])
  unfold pX7_children at h
  refine lv_iconst (v := 0) hx hb dX7_children_0 (by decide) ?_
  refine lv_istore_n (lv' := [(3, .int 0), (0, .ref (q 0)), (1, .int x1), (2, .int x2)]) hx hb dX7_children_1 rfl hl (by decide) rfl (fun ls hl => ?_)
  refine lv_iconst (v := 1) hx hb dX7_children_2 (by decide) ?_
  refine lv_istore (lv' := [(4, .int 1), (3, .int 0), (0, .ref (q 0)), (1, .int x1), (2, .int x2)]) hx hb dX7_children_3 hl (by decide) rfl (fun ls hl => ?_)
  exact wX7_children_5 bx hP hK FU x1 x2 0 1 h _ (lv_sub hl [2, 3, 4, 1, 0] rfl)

def rmX7_hasOffChild : Room := { frames := 1, cells := 0, slots := 0, locals := 21 }

theorem in_wsX7_hasOffChild_X7 : ∀ w ∈ u_ws RX7 TX7 24, w ∈ wsX7_hasOffChild := by decide +kernel

set_option maxHeartbeats 4000000 in
set_option maxRecDepth 100000 in
theorem wX7_hasOffChild_48 {p : Program} {l : Launch} {e : Env} {s : State} {m : MethodId} {args : Array Value} {below : List Frame} {meth : Method} {c : Code} {G : GT} {q : Nat → Nat} {C : St} {out : Int32} (bx : BX p RX7 wsX7_hasOffChild cX7_hasOffChild 4 (some .boolean) s m args meth c) (hP : va_P G.1 vwCl (MW G q C) s.heap) (hK : CK G s) {k4 : St → Int32 → Int32 → Int32 → Option (Int32)} (hk4 : ∀ (x1 : Int32) (x2 : Int32) (x3 : Int32), k4 C x1 x2 x3 = some out → ∀ (ls : Array Slot), lv_has ls 4 [(0, .ref (q 0)), (1, .int x1), (2, .int x2), (3, .int x3)] → GoI p l e rmX7_hasOffChild s m args below meth c out (F0 m 4 ls [])) (x1 : Int32) (x3 : Int32) (t0 : Int32) (t1 : Int32) (h : pX7_hasOffChild_48 k4 C x1 x3 t0 t1 = some out) (ls : Array Slot) (hl : lv_has ls 4 [(0, .ref (q 0)), (1, .int x1), (3, .int x3)]) : GoI p l e rmX7_hasOffChild s m args below meth c out (F0 m 48 ls [.int t1, .int t0]) := by
  obtain ⟨hx, hb, hr, hts, hown, hml, hlocks⟩ := id bx
  unfold pX7_hasOffChild_48 at h
  refine lv_ior hx hb dX7_hasOffChild_48 ?_
  refine lv_topi (fun v_1 ev_1 => ?_)
  have h := ltv_at h v_1 ev_1
  refine lv_istore_n (lv' := [(2, .int v_1), (0, .ref (q 0)), (1, .int x1), (3, .int x3)]) hx hb dX7_hasOffChild_49 rfl hl (by decide) rfl (fun ls hl => ?_)
  obtain ⟨v_2, ev_2, h⟩ := ltv_ex h
  refine lv_iinc (v := v_2) (lv' := [(3, .int v_2), (2, .int v_1), (0, .ref (q 0)), (1, .int x1)]) hx hb dX7_hasOffChild_50 hl (k := 3) rfl (by rw [ev_2]; rfl) (by decide) rfl (fun ls hl => ?_)
  refine lv_goto (tgt := 4) hx hb dX7_hasOffChild_53 (by decide) ?_
  exact hk4 x1 v_1 v_2 h _ (lv_sub hl [2, 3, 1, 0] rfl)

set_option maxHeartbeats 4000000 in
set_option maxRecDepth 100000 in
theorem wX7_hasOffChild_47 {p : Program} {l : Launch} {e : Env} {s : State} {m : MethodId} {args : Array Value} {below : List Frame} {meth : Method} {c : Code} {G : GT} {q : Nat → Nat} {C : St} {out : Int32} (bx : BX p RX7 wsX7_hasOffChild cX7_hasOffChild 4 (some .boolean) s m args meth c) (hP : va_P G.1 vwCl (MW G q C) s.heap) (hK : CK G s) {k4 : St → Int32 → Int32 → Int32 → Option (Int32)} (hk4 : ∀ (x1 : Int32) (x2 : Int32) (x3 : Int32), k4 C x1 x2 x3 = some out → ∀ (ls : Array Slot), lv_has ls 4 [(0, .ref (q 0)), (1, .int x1), (2, .int x2), (3, .int x3)] → GoI p l e rmX7_hasOffChild s m args below meth c out (F0 m 4 ls [])) (x1 : Int32) (x3 : Int32) (t0 : Int32) (h : pX7_hasOffChild_47 k4 C x1 x3 t0 = some out) (ls : Array Slot) (hl : lv_has ls 4 [(0, .ref (q 0)), (1, .int x1), (3, .int x3)]) : GoI p l e rmX7_hasOffChild s m args below meth c out (F0 m 47 ls [.int t0]) := by
  obtain ⟨hx, hb, hr, hts, hown, hml, hlocks⟩ := id bx
  unfold pX7_hasOffChild_47 at h
  refine lv_iconst (v := 0) hx hb dX7_hasOffChild_47 (by decide) ?_
  exact wX7_hasOffChild_48 bx hP hK hk4 x1 x3 t0 0 h _ (lv_sub hl [0, 1, 2] rfl)

set_option maxHeartbeats 4000000 in
set_option maxRecDepth 100000 in
theorem wX7_hasOffChild_4_b {p : Program} {l : Launch} {e : Env} {s : State} {m : MethodId} {args : Array Value} {below : List Frame} {meth : Method} {c : Code} {G : GT} {q : Nat → Nat} {C : St} {out : Int32} (bx : BX p RX7 wsX7_hasOffChild cX7_hasOffChild 4 (some .boolean) s m args meth c) (hP : va_P G.1 vwCl (MW G q C) s.heap) (hK : CK G s) {k4 : St → Int32 → Int32 → Int32 → Option (Int32)} (hk4 : ∀ (x1 : Int32) (x2 : Int32) (x3 : Int32), k4 C x1 x2 x3 = some out → ∀ (ls : Array Slot), lv_has ls 4 [(0, .ref (q 0)), (1, .int x1), (2, .int x2), (3, .int x3)] → GoI p l e rmX7_hasOffChild s m args below meth c out (F0 m 4 ls [])) (x1 : Int32) (x2 : Int32) (x3 : Int32) (h : pX7_hasOffChild_4_b k4 C x1 x2 x3 = some out) (ls : Array Slot) (hl : lv_has ls 4 [(0, .ref (q 0)), (1, .int x1), (2, .int x2), (3, .int x3)]) : GoI p l e rmX7_hasOffChild s m args below meth c out (F0 m 4 ls []) := by
  obtain ⟨hx, hb, hr, hts, hown, hml, hlocks⟩ := id bx
  unfold pX7_hasOffChild_4_b at h
  refine lv_iload_n hx hb dX7_hasOffChild_4 rfl (lv_at hl 3 rfl) ?_
  refine lv_aload_n hx hb dX7_hasOffChild_5 rfl (lv_at hl 0 rfl) ?_
  refine va_get (D := G.1) (ci := 8) (v := .int (C.1 0)) (C := RX7) (T := TX7) (N := 24) hx hb hts in_wsX7_hasOffChild_X7 hown hK.1 hP 0 rfl rfl 16 (by decide) (w_mem hts 1 rfl) (fun _ h9 => h9) rfl dX7_hasOffChild_6 ?_
  refine lv_icmp_ge (tgt := 56) hx hb dX7_hasOffChild_9 (by decide) (fun c_9 => ?_) (fun c_9 => ?_)
  · have h := br_T h c_9
    refine lv_iload_n hx hb dX7_hasOffChild_56 rfl (lv_at hl 2 rfl) ?_
    obtain ⟨g57, h⟩ := gd_ex h
    exact GoI.end hx hb hr hlocks dX7_hasOffChild_57 (okZ_n g57) h
  · have h := br_F h c_9
    refine lv_iload_n hx hb dX7_hasOffChild_12 rfl (lv_at hl 2 rfl) ?_
    refine lv_aload_n hx hb dX7_hasOffChild_13 rfl (lv_at hl 0 rfl) ?_
    refine va_get (D := G.1) (ci := 8) (v := .ref (q 1)) (C := RX7) (T := TX7) (N := 24) hx hb hts in_wsX7_hasOffChild_X7 hown hK.1 hP 0 rfl rfl 0 (by decide) (w_mem hts 2 rfl) (fun _ h9 => h9) rfl dX7_hasOffChild_14 ?_
    refine lv_iload_n hx hb dX7_hasOffChild_17 rfl (lv_at hl 3 rfl) ?_
    obtain ⟨g18, h⟩ := gd_ex h
    refine va_iald (D := G.1) hx hb hK.1 hP 1 0 rfl rfl g18 dX7_hasOffChild_18 ?_
    refine lv_iload_n hx hb dX7_hasOffChild_19 rfl (lv_at hl 1 rfl) ?_
    refine lv_icmp_ne (tgt := 47) hx hb dX7_hasOffChild_20 (by decide) (fun c_20 => ?_) (fun c_20 => ?_)
    · have h := br_F h c_20
      exact wX7_hasOffChild_47 bx hP hK hk4 x1 x3 x2 h _ (lv_sub hl [0, 1, 3] rfl)
    · have h := br_T h c_20
      refine lv_aload_n hx hb dX7_hasOffChild_23 rfl (lv_at hl 0 rfl) ?_
      refine va_get (D := G.1) (ci := 8) (v := .ref (q 5)) (C := RX7) (T := TX7) (N := 24) hx hb hts in_wsX7_hasOffChild_X7 hown hK.1 hP 0 rfl rfl 4 (by decide) (w_mem hts 3 rfl) (fun _ h9 => h9) rfl dX7_hasOffChild_24 ?_
      refine lv_iload_n hx hb dX7_hasOffChild_27 rfl (lv_at hl 3 rfl) ?_
      obtain ⟨g28, h⟩ := gd_ex h
      refine va_zald (D := G.1) hx hb hK.1 hP 5 2 rfl rfl g28 dX7_hasOffChild_28 ?_
      refine lv_if_eq (tgt := 47) hx hb dX7_hasOffChild_29 (by decide) (fun c_29 => ?_) (fun c_29 => ?_)
      · have h := br_T h c_29
        exact wX7_hasOffChild_47 bx hP hK hk4 x1 x3 x2 h _ (lv_sub hl [0, 1, 3] rfl)
      · have h := br_F h c_29
        refine lv_aload_n hx hb dX7_hasOffChild_32 rfl (lv_at hl 0 rfl) ?_
        refine va_get (D := G.1) (ci := 8) (v := .int (C.1 6)) (C := RX7) (T := TX7) (N := 24) hx hb hts in_wsX7_hasOffChild_X7 hown hK.1 hP 0 rfl rfl 22 (by decide) (w_mem hts 4 rfl) (fun _ h9 => h9) rfl dX7_hasOffChild_33 ?_
        refine lv_iload_n hx hb dX7_hasOffChild_36 rfl (lv_at hl 3 rfl) ?_
        obtain ⟨r_3, hr_3, h⟩ := bd_ex h
        refine ro_i (va_runS (As := [.int (C.1 6), .int x3]) (rest := [.int x2]) ⟨hx, hb, hml, hown, hts⟩ (kX7_has l G q C (C.1 6) x3 r_3 hr_3) (va_cwS 2 hts gX7_hasOffChild_X7_has rfl rfl rfl (by decide +kernel) ⟨Nat.le_of_ble_eq_true rfl, Nat.le_of_ble_eq_true rfl⟩) (roS hP hK) rfl rfl hl.1 rfl (lv_room (Nat.le_of_ble_eq_true rfl)) dX7_hasOffChild_37 ⟨Nat.zero_le _, Nat.zero_le _⟩) ?_
        refine lv_if_eq (tgt := 47) hx hb dX7_hasOffChild_40 (by decide) (fun c_40 => ?_) (fun c_40 => ?_)
        · have h := br_T h c_40
          exact wX7_hasOffChild_47 bx hP hK hk4 x1 x3 x2 h _ (lv_sub hl [0, 1, 3] rfl)
        · have h := br_F h c_40
          refine lv_iconst (v := 1) hx hb dX7_hasOffChild_43 (by decide) ?_
          refine lv_goto (tgt := 48) hx hb dX7_hasOffChild_44 (by decide) ?_
          exact wX7_hasOffChild_48 bx hP hK hk4 x1 x3 x2 1 h _ (lv_sub hl [0, 1, 3] rfl)

theorem wX7_hasOffChild_4 {p : Program} {l : Launch} {e : Env} {s : State} {m : MethodId} {args : Array Value} {below : List Frame} {meth : Method} {c : Code} {G : GT} {q : Nat → Nat} {C : St} {out : Int32} (bx : BX p RX7 wsX7_hasOffChild cX7_hasOffChild 4 (some .boolean) s m args meth c) (hP : va_P G.1 vwCl (MW G q C) s.heap) (hK : CK G s) :
    ∀ (n : Nat) (x1 : Int32) (x2 : Int32) (x3 : Int32), pX7_hasOffChild_4 n C x1 x2 x3 = some out → ∀ (ls : Array Slot), lv_has ls 4 [(0, .ref (q 0)), (1, .int x1), (2, .int x2), (3, .int x3)] → GoI p l e rmX7_hasOffChild s m args below meth c out (F0 m 4 ls []) := by
  intro n
  induction n with
  | zero => intro _ _ _ h; cases h
  | succ n ih => exact fun a0 a1 a2 h ls hl => wX7_hasOffChild_4_b bx hP hK ih a0 a1 a2 h ls hl

set_option maxHeartbeats 4000000 in
set_option maxRecDepth 100000 in
theorem kX7_hasOffChild (l : Launch) (G : GT) (q : Nat → Nat) (C : St) (x1 : Int32) (r : Int32) (h : pX7_hasOffChild C x1 = some r) : Met l yX7_hasOffChild wsX7_hasOffChild rmX7_hasOffChild (va_Pc [.ref (q 0), .int x1] (roP G (MW G q C))) (vp_Si (fun v => v = r)) 0 0 (fun _ => False) := by
  refine Met.ofW (cc := cX7_hasOffChild) (maxL := 4) (ret := (some .boolean)) (by decide) rfl ?_
  intro p e s m args below meth c s₁ B hml hv
  obtain ⟨rfl, hP, hK⟩ := hv
  have bx := bx_of B hml
  obtain ⟨hx, hb, hr, hts, hown, hml, hlocks⟩ := id bx
  have hl := lv_entry ([.ref (q 0), .int x1]) (n := 4) (Nat.le_of_ble_eq_true rfl)
  rw [lg_entry_eq]
  generalize (lg_sl ([.ref (q 0), .int x1]) ++ List.replicate (4 - (lg_sl ([.ref (q 0), .int x1])).length) Slot.unset).toArray = ls at hl ⊢
  have hl : lv_has ls 4 [(0, .ref (q 0)), (1, .int x1)] := hl
  show GoI p l e rmX7_hasOffChild s m _ below meth c r (F0 m 0 ls [])
  unfold pX7_hasOffChild at h
  refine lv_iconst (v := 0) hx hb dX7_hasOffChild_0 (by decide) ?_
  refine lv_istore_n (lv' := [(2, .int 0), (0, .ref (q 0)), (1, .int x1)]) hx hb dX7_hasOffChild_1 rfl hl (by decide) rfl (fun ls hl => ?_)
  refine lv_iconst (v := 1) hx hb dX7_hasOffChild_2 (by decide) ?_
  refine lv_istore_n (lv' := [(3, .int 1), (2, .int 0), (0, .ref (q 0)), (1, .int x1)]) hx hb dX7_hasOffChild_3 rfl hl (by decide) rfl (fun ls hl => ?_)
  exact wX7_hasOffChild_4 bx hP hK FU x1 0 1 h _ (lv_sub hl [2, 3, 1, 0] rfl)

def rmX7_told : Room := { frames := 1, cells := 0, slots := 0, locals := 21 }

theorem in_wsX7_told_X7 : ∀ w ∈ u_ws RX7 TX7 24, w ∈ wsX7_told := by decide +kernel

set_option maxHeartbeats 4000000 in
set_option maxRecDepth 100000 in
theorem wX7_told_207 {p : Program} {l : Launch} {e : Env} {s : State} {m : MethodId} {args : Array Value} {below : List Frame} {meth : Method} {c : Code} {G : GT} {q : Nat → Nat} {C : St} {out : Int32} (bx : BX p RX7 wsX7_told cX7_told 4 (some .int) s m args meth c) (hP : va_P G.1 vwCl (MW G q C) s.heap) (hK : CK G s) (x3 : Int32) (h : pX7_told_207 C x3 = some out) (ls : Array Slot) (hl : lv_has ls 4 [(0, .ref (q 0)), (3, .int x3)]) : GoI p l e rmX7_told s m args below meth c out (F0 m 207 ls []) := by
  obtain ⟨hx, hb, hr, hts, hown, hml, hlocks⟩ := id bx
  unfold pX7_told_207 at h
  refine lv_aload_n hx hb dX7_told_207 rfl (lv_at hl 0 rfl) ?_
  refine va_get (D := G.1) (ci := 8) (v := .int (C.1 6)) (C := RX7) (T := TX7) (N := 24) hx hb hts in_wsX7_told_X7 hown hK.1 hP 0 rfl rfl 22 (by decide) (w_mem hts 5 rfl) (fun _ h9 => h9) rfl dX7_told_208 ?_
  refine lv_iload_n hx hb dX7_told_211 rfl (lv_at hl 1 rfl) ?_
  refine lv_iand hx hb dX7_told_212 ?_
  refine lv_iload_n hx hb dX7_told_213 rfl (lv_at hl 1 rfl) ?_
  refine lv_icmp_ne (tgt := 221) hx hb dX7_told_214 (by decide) (fun c_214 => ?_) (fun c_214 => ?_)
  · have h := br_F h c_214
    refine lv_iconst (v := 0) hx hb dX7_told_221 (by decide) ?_
    exact GoI.end hx hb hr hlocks dX7_told_222 rfl h
  · have h := br_T h c_214
    refine lv_iconst (v := 1) hx hb dX7_told_217 (by decide) ?_
    refine lv_goto (tgt := 222) hx hb dX7_told_218 (by decide) ?_
    exact GoI.end hx hb hr hlocks dX7_told_222 rfl h

set_option maxHeartbeats 4000000 in
set_option maxRecDepth 100000 in
theorem wX7_told_110 {p : Program} {l : Launch} {e : Env} {s : State} {m : MethodId} {args : Array Value} {below : List Frame} {meth : Method} {c : Code} {G : GT} {q : Nat → Nat} {C : St} {out : Int32} (bx : BX p RX7 wsX7_told cX7_told 4 (some .int) s m args meth c) (hP : va_P G.1 vwCl (MW G q C) s.heap) (hK : CK G s) (x1 : Int32) (x2 : Int32) (h : pX7_told_110 C x1 x2 = some out) (ls : Array Slot) (hl : lv_has ls 4 [(0, .ref (q 0)), (1, .int x1), (2, .int x2)]) : GoI p l e rmX7_told s m args below meth c out (F0 m 110 ls []) := by
  obtain ⟨hx, hb, hr, hts, hown, hml, hlocks⟩ := id bx
  unfold pX7_told_110 at h
  refine lv_iload_n hx hb dX7_told_110 rfl (lv_at hl 2 rfl) ?_
  refine lv_aload_n hx hb dX7_told_111 rfl (lv_at hl 0 rfl) ?_
  refine va_get (D := G.1) (ci := 8) (v := .ref (q 10)) (C := RX7) (T := TX7) (N := 24) hx hb hts in_wsX7_told_X7 hown hK.1 hP 0 rfl rfl 9 (by decide) (w_mem hts 4 rfl) (fun _ h9 => h9) rfl dX7_told_112 ?_
  refine lv_iload_n hx hb dX7_told_115 rfl (lv_at hl 1 rfl) ?_
  obtain ⟨g116, h⟩ := gd_ex h
  refine va_iald (D := G.1) hx hb hK.1 hP 10 0 rfl rfl g116 dX7_told_116 ?_
  refine lv_icmp_ne (tgt := 140) hx hb dX7_told_117 (by decide) (fun c_117 => ?_) (fun c_117 => ?_)
  · have h := br_F h c_117
    refine lv_iconst (v := 0) hx hb dX7_told_140 (by decide) ?_
    exact GoI.end hx hb hr hlocks dX7_told_141 rfl h
  · have h := br_T h c_117
    refine lv_aload_n hx hb dX7_told_120 rfl (lv_at hl 0 rfl) ?_
    refine va_get (D := G.1) (ci := 8) (v := .int (C.1 5)) (C := RX7) (T := TX7) (N := 24) hx hb hts in_wsX7_told_X7 hown hK.1 hP 0 rfl rfl 21 (by decide) (w_mem hts 3 rfl) (fun _ h9 => h9) rfl dX7_told_121 ?_
    refine lv_aload_n hx hb dX7_told_124 rfl (lv_at hl 0 rfl) ?_
    refine va_get (D := G.1) (ci := 8) (v := .ref (q 11)) (C := RX7) (T := TX7) (N := 24) hx hb hts in_wsX7_told_X7 hown hK.1 hP 0 rfl rfl 10 (by decide) (w_mem hts 2 rfl) (fun _ h9 => h9) rfl dX7_told_125 ?_
    refine lv_iload_n hx hb dX7_told_128 rfl (lv_at hl 1 rfl) ?_
    obtain ⟨g129, h⟩ := gd_ex h
    refine va_iald (D := G.1) hx hb hK.1 hP 11 0 rfl rfl g129 dX7_told_129 ?_
    obtain ⟨r_3, hr_3, h⟩ := bd_ex h
    refine ro_i (va_runS (As := [.int (C.1 5), .int (C.2 10 x1.toNatClampNeg)]) (rest := []) ⟨hx, hb, hml, hown, hts⟩ (kX7_has l G q C (C.1 5) (C.2 10 x1.toNatClampNeg) r_3 hr_3) (va_cwS 2 hts gX7_told_X7_has rfl rfl rfl (by decide +kernel) ⟨Nat.le_of_ble_eq_true rfl, Nat.le_of_ble_eq_true rfl⟩) (roS hP hK) rfl rfl hl.1 rfl (lv_room (Nat.le_of_ble_eq_true rfl)) dX7_told_130 ⟨Nat.zero_le _, Nat.zero_le _⟩) ?_
    refine lv_if_eq (tgt := 140) hx hb dX7_told_133 (by decide) (fun c_133 => ?_) (fun c_133 => ?_)
    · have h := br_T h c_133
      refine lv_iconst (v := 0) hx hb dX7_told_140 (by decide) ?_
      exact GoI.end hx hb hr hlocks dX7_told_141 rfl h
    · have h := br_F h c_133
      refine lv_iconst (v := (-1)) hx hb dX7_told_136 (by decide) ?_
      refine lv_goto (tgt := 141) hx hb dX7_told_137 (by decide) ?_
      exact GoI.end hx hb hr hlocks dX7_told_141 rfl h

set_option maxHeartbeats 4000000 in
set_option maxRecDepth 100000 in
theorem wX7_told_41 {p : Program} {l : Launch} {e : Env} {s : State} {m : MethodId} {args : Array Value} {below : List Frame} {meth : Method} {c : Code} {G : GT} {q : Nat → Nat} {C : St} {out : Int32} (bx : BX p RX7 wsX7_told cX7_told 4 (some .int) s m args meth c) (hP : va_P G.1 vwCl (MW G q C) s.heap) (hK : CK G s) (x1 : Int32) (x2 : Int32) (h : pX7_told_41 C x1 x2 = some out) (ls : Array Slot) (hl : lv_has ls 4 [(0, .ref (q 0)), (1, .int x1), (2, .int x2)]) : GoI p l e rmX7_told s m args below meth c out (F0 m 41 ls []) := by
  obtain ⟨hx, hb, hr, hts, hown, hml, hlocks⟩ := id bx
  unfold pX7_told_41 at h
  refine lv_iload_n hx hb dX7_told_41 rfl (lv_at hl 2 rfl) ?_
  refine lv_aload_n hx hb dX7_told_42 rfl (lv_at hl 0 rfl) ?_
  refine va_get (D := G.1) (ci := 8) (v := .ref (q 10)) (C := RX7) (T := TX7) (N := 24) hx hb hts in_wsX7_told_X7 hown hK.1 hP 0 rfl rfl 9 (by decide) (w_mem hts 4 rfl) (fun _ h9 => h9) rfl dX7_told_43 ?_
  refine lv_iload_n hx hb dX7_told_46 rfl (lv_at hl 1 rfl) ?_
  obtain ⟨g47, h⟩ := gd_ex h
  refine va_iald (D := G.1) hx hb hK.1 hP 10 0 rfl rfl g47 dX7_told_47 ?_
  refine lv_icmp_ne (tgt := 71) hx hb dX7_told_48 (by decide) (fun c_48 => ?_) (fun c_48 => ?_)
  · have h := br_F h c_48
    refine lv_iconst (v := 0) hx hb dX7_told_71 (by decide) ?_
    exact GoI.end hx hb hr hlocks dX7_told_72 rfl h
  · have h := br_T h c_48
    refine lv_aload_n hx hb dX7_told_51 rfl (lv_at hl 0 rfl) ?_
    refine va_get (D := G.1) (ci := 8) (v := .int (C.1 6)) (C := RX7) (T := TX7) (N := 24) hx hb hts in_wsX7_told_X7 hown hK.1 hP 0 rfl rfl 22 (by decide) (w_mem hts 5 rfl) (fun _ h9 => h9) rfl dX7_told_52 ?_
    refine lv_aload_n hx hb dX7_told_55 rfl (lv_at hl 0 rfl) ?_
    refine va_get (D := G.1) (ci := 8) (v := .ref (q 11)) (C := RX7) (T := TX7) (N := 24) hx hb hts in_wsX7_told_X7 hown hK.1 hP 0 rfl rfl 10 (by decide) (w_mem hts 2 rfl) (fun _ h9 => h9) rfl dX7_told_56 ?_
    refine lv_iload_n hx hb dX7_told_59 rfl (lv_at hl 1 rfl) ?_
    obtain ⟨g60, h⟩ := gd_ex h
    refine va_iald (D := G.1) hx hb hK.1 hP 11 0 rfl rfl g60 dX7_told_60 ?_
    obtain ⟨r_5, hr_5, h⟩ := bd_ex h
    refine ro_i (va_runS (As := [.int (C.1 6), .int (C.2 10 x1.toNatClampNeg)]) (rest := []) ⟨hx, hb, hml, hown, hts⟩ (kX7_has l G q C (C.1 6) (C.2 10 x1.toNatClampNeg) r_5 hr_5) (va_cwS 2 hts gX7_told_X7_has rfl rfl rfl (by decide +kernel) ⟨Nat.le_of_ble_eq_true rfl, Nat.le_of_ble_eq_true rfl⟩) (roS hP hK) rfl rfl hl.1 rfl (lv_room (Nat.le_of_ble_eq_true rfl)) dX7_told_61 ⟨Nat.zero_le _, Nat.zero_le _⟩) ?_
    refine lv_if_eq (tgt := 71) hx hb dX7_told_64 (by decide) (fun c_64 => ?_) (fun c_64 => ?_)
    · have h := br_T h c_64
      refine lv_iconst (v := 0) hx hb dX7_told_71 (by decide) ?_
      exact GoI.end hx hb hr hlocks dX7_told_72 rfl h
    · have h := br_F h c_64
      refine lv_iconst (v := (-1)) hx hb dX7_told_67 (by decide) ?_
      refine lv_goto (tgt := 72) hx hb dX7_told_68 (by decide) ?_
      exact GoI.end hx hb hr hlocks dX7_told_72 rfl h

set_option maxHeartbeats 4000000 in
set_option maxRecDepth 100000 in
theorem kX7_told (l : Launch) (G : GT) (q : Nat → Nat) (C : St) (x1 : Int32) (x2 : Int32) (r : Int32) (h : pX7_told C x1 x2 = some r) : Met l yX7_told wsX7_told rmX7_told (va_Pc [.ref (q 0), .int x1, .int x2] (roP G (MW G q C))) (vp_Si (fun v => v = r)) 0 0 (fun _ => False) := by
  refine Met.ofW (cc := cX7_told) (maxL := 4) (ret := (some .int)) (by decide) rfl ?_
  intro p e s m args below meth c s₁ B hml hv
  obtain ⟨rfl, hP, hK⟩ := hv
  have bx := bx_of B hml
  obtain ⟨hx, hb, hr, hts, hown, hml, hlocks⟩ := id bx
  have hl := lv_entry ([.ref (q 0), .int x1, .int x2]) (n := 4) (Nat.le_of_ble_eq_true rfl)
  rw [lg_entry_eq]
  generalize (lg_sl ([.ref (q 0), .int x1, .int x2]) ++ List.replicate (4 - (lg_sl ([.ref (q 0), .int x1, .int x2])).length) Slot.unset).toArray = ls at hl ⊢
  have hl : lv_has ls 4 [(0, .ref (q 0)), (1, .int x1), (2, .int x2)] := hl
  show GoI p l e rmX7_told s m _ below meth c r (F0 m 0 ls [])
  unfold pX7_told at h
  refine lv_aload_n hx hb dX7_told_0 rfl (lv_at hl 0 rfl) ?_
  refine va_get (D := G.1) (ci := 8) (v := .ref (q 7)) (C := RX7) (T := TX7) (N := 24) hx hb hts in_wsX7_told_X7 hown hK.1 hP 0 rfl rfl 6 (by decide) (w_mem hts 1 rfl) (fun _ h9 => h9) rfl dX7_told_1 ?_
  refine lv_iload_n hx hb dX7_told_4 rfl (lv_at hl 1 rfl) ?_
  obtain ⟨g5, h⟩ := gd_ex h
  refine va_cald (D := G.1) hx hb hK.1 hP 7 1 rfl rfl g5 dX7_told_5 ?_
  refine lv_bipush (v := 114) hx hb dX7_told_6 (by decide) ?_
  refine lv_icmp_ne (tgt := 73) hx hb dX7_told_8 (by decide) (fun c_8 => ?_) (fun c_8 => ?_)
  · have h := br_F h c_8
    refine lv_aload_n hx hb dX7_told_73 rfl (lv_at hl 0 rfl) ?_
    refine va_get (D := G.1) (ci := 8) (v := .ref (q 7)) (C := RX7) (T := TX7) (N := 24) hx hb hts in_wsX7_told_X7 hown hK.1 hP 0 rfl rfl 6 (by decide) (w_mem hts 1 rfl) (fun _ h9 => h9) rfl dX7_told_74 ?_
    refine lv_iload_n hx hb dX7_told_77 rfl (lv_at hl 1 rfl) ?_
    obtain ⟨g78, h⟩ := gd_ex h
    refine va_cald (D := G.1) hx hb hK.1 hP 7 1 rfl rfl g78 dX7_told_78 ?_
    refine lv_bipush (v := 101) hx hb dX7_told_79 (by decide) ?_
    refine lv_icmp_ne (tgt := 142) hx hb dX7_told_81 (by decide) (fun c_81 => ?_) (fun c_81 => ?_)
    · have h := br_F h c_81
      refine lv_iconst (v := 1) hx hb dX7_told_142 (by decide) ?_
      refine lv_aload_n hx hb dX7_told_143 rfl (lv_at hl 0 rfl) ?_
      refine va_get (D := G.1) (ci := 8) (v := .ref (q 10)) (C := RX7) (T := TX7) (N := 24) hx hb hts in_wsX7_told_X7 hown hK.1 hP 0 rfl rfl 9 (by decide) (w_mem hts 4 rfl) (fun _ h9 => h9) rfl dX7_told_144 ?_
      refine lv_iload_n hx hb dX7_told_147 rfl (lv_at hl 1 rfl) ?_
      obtain ⟨g148, h⟩ := gd_ex h
      refine va_iald (D := G.1) hx hb hK.1 hP 10 0 rfl rfl g148 dX7_told_148 ?_
      refine lv_ishl hx hb dX7_told_149 ?_
      refine lv_iconst (v := 1) hx hb dX7_told_150 (by decide) ?_
      refine lv_aload_n hx hb dX7_told_151 rfl (lv_at hl 0 rfl) ?_
      refine va_get (D := G.1) (ci := 8) (v := .ref (q 11)) (C := RX7) (T := TX7) (N := 24) hx hb hts in_wsX7_told_X7 hown hK.1 hP 0 rfl rfl 10 (by decide) (w_mem hts 2 rfl) (fun _ h9 => h9) rfl dX7_told_152 ?_
      refine lv_iload_n hx hb dX7_told_155 rfl (lv_at hl 1 rfl) ?_
      obtain ⟨g156, h⟩ := gd_ex h
      refine va_iald (D := G.1) hx hb hK.1 hP 11 0 rfl rfl g156 dX7_told_156 ?_
      refine lv_ishl hx hb dX7_told_157 ?_
      refine lv_ior hx hb dX7_told_158 ?_
      refine lv_iconst (v := 1) hx hb dX7_told_159 (by decide) ?_
      refine lv_aload_n hx hb dX7_told_160 rfl (lv_at hl 0 rfl) ?_
      refine va_get (D := G.1) (ci := 8) (v := .ref (q 12)) (C := RX7) (T := TX7) (N := 24) hx hb hts in_wsX7_told_X7 hown hK.1 hP 0 rfl rfl 11 (by decide) (w_mem hts 6 rfl) (fun _ h9 => h9) rfl dX7_told_161 ?_
      refine lv_iload_n hx hb dX7_told_164 rfl (lv_at hl 1 rfl) ?_
      obtain ⟨g165, h⟩ := gd_ex h
      refine va_iald (D := G.1) hx hb hK.1 hP 12 0 rfl rfl g165 dX7_told_165 ?_
      refine lv_ishl hx hb dX7_told_166 ?_
      refine lv_ior hx hb dX7_told_167 ?_
      refine lv_topi (fun v_1 ev_1 => ?_)
      have h := ltv_at h v_1 ev_1
      refine lv_istore_n (lv' := [(3, .int v_1), (0, .ref (q 0)), (1, .int x1), (2, .int x2)]) hx hb dX7_told_168 rfl hl (by decide) rfl (fun ls hl => ?_)
      refine lv_iload_n hx hb dX7_told_169 rfl (lv_at hl 0 rfl) ?_
      refine lv_iconst (v := 1) hx hb dX7_told_170 (by decide) ?_
      refine lv_iload_n hx hb dX7_told_171 rfl (lv_at hl 3 rfl) ?_
      refine lv_ishl hx hb dX7_told_172 ?_
      refine lv_iconst (v := (-1)) hx hb dX7_told_173 (by decide) ?_
      refine lv_ixor hx hb dX7_told_174 ?_
      refine lv_iand hx hb dX7_told_175 ?_
      refine lv_topi (fun v_2 ev_2 => ?_)
      have h := ltv_at h v_2 ev_2
      refine lv_istore_n (lv' := [(3, .int v_2), (0, .ref (q 0)), (1, .int x1), (2, .int x2)]) hx hb dX7_told_176 rfl hl (by decide) rfl (fun ls hl => ?_)
      refine lv_iload_n hx hb dX7_told_177 rfl (lv_at hl 3 rfl) ?_
      refine lv_aload_n hx hb dX7_told_178 rfl (lv_at hl 1 rfl) ?_
      refine va_get (D := G.1) (ci := 8) (v := .ref (q 10)) (C := RX7) (T := TX7) (N := 24) hx hb hts in_wsX7_told_X7 hown hK.1 hP 0 rfl rfl 9 (by decide) (w_mem hts 4 rfl) (fun _ h9 => h9) rfl dX7_told_179 ?_
      refine lv_iload_n hx hb dX7_told_182 rfl (lv_at hl 2 rfl) ?_
      obtain ⟨g183, h⟩ := gd_ex h
      refine va_iald (D := G.1) hx hb hK.1 hP 10 0 rfl rfl g183 dX7_told_183 ?_
      refine lv_icmp_eq (tgt := 207) hx hb dX7_told_184 (by decide) (fun c_184 => ?_) (fun c_184 => ?_)
      · have h := br_T h c_184
        exact wX7_told_207 bx hP hK v_2 h _ (lv_sub hl [1, 0] rfl)
      · have h := br_F h c_184
        refine lv_iload_n hx hb dX7_told_187 rfl (lv_at hl 3 rfl) ?_
        refine lv_aload_n hx hb dX7_told_188 rfl (lv_at hl 1 rfl) ?_
        refine va_get (D := G.1) (ci := 8) (v := .ref (q 11)) (C := RX7) (T := TX7) (N := 24) hx hb hts in_wsX7_told_X7 hown hK.1 hP 0 rfl rfl 10 (by decide) (w_mem hts 2 rfl) (fun _ h9 => h9) rfl dX7_told_189 ?_
        refine lv_iload_n hx hb dX7_told_192 rfl (lv_at hl 2 rfl) ?_
        obtain ⟨g193, h⟩ := gd_ex h
        refine va_iald (D := G.1) hx hb hK.1 hP 11 0 rfl rfl g193 dX7_told_193 ?_
        refine lv_icmp_eq (tgt := 207) hx hb dX7_told_194 (by decide) (fun c_194 => ?_) (fun c_194 => ?_)
        · have h := br_T h c_194
          exact wX7_told_207 bx hP hK v_2 h _ (lv_sub hl [1, 0] rfl)
        · have h := br_F h c_194
          refine lv_iload_n hx hb dX7_told_197 rfl (lv_at hl 3 rfl) ?_
          refine lv_aload_n hx hb dX7_told_198 rfl (lv_at hl 1 rfl) ?_
          refine va_get (D := G.1) (ci := 8) (v := .ref (q 12)) (C := RX7) (T := TX7) (N := 24) hx hb hts in_wsX7_told_X7 hown hK.1 hP 0 rfl rfl 11 (by decide) (w_mem hts 6 rfl) (fun _ h9 => h9) rfl dX7_told_199 ?_
          refine lv_iload_n hx hb dX7_told_202 rfl (lv_at hl 2 rfl) ?_
          obtain ⟨g203, h⟩ := gd_ex h
          refine va_iald (D := G.1) hx hb hK.1 hP 12 0 rfl rfl g203 dX7_told_203 ?_
          refine lv_icmp_ne (tgt := 221) hx hb dX7_told_204 (by decide) (fun c_204 => ?_) (fun c_204 => ?_)
          · have h := br_F h c_204
            refine lv_iconst (v := 0) hx hb dX7_told_221 (by decide) ?_
            exact GoI.end hx hb hr hlocks dX7_told_222 rfl h
          · have h := br_T h c_204
            exact wX7_told_207 bx hP hK v_2 h _ (lv_sub hl [1, 0] rfl)
    · have h := br_T h c_81
      refine lv_iload_n hx hb dX7_told_84 rfl (lv_at hl 2 rfl) ?_
      refine lv_aload_n hx hb dX7_told_85 rfl (lv_at hl 0 rfl) ?_
      refine va_get (D := G.1) (ci := 8) (v := .ref (q 11)) (C := RX7) (T := TX7) (N := 24) hx hb hts in_wsX7_told_X7 hown hK.1 hP 0 rfl rfl 10 (by decide) (w_mem hts 2 rfl) (fun _ h9 => h9) rfl dX7_told_86 ?_
      refine lv_iload_n hx hb dX7_told_89 rfl (lv_at hl 1 rfl) ?_
      obtain ⟨g90, h⟩ := gd_ex h
      refine va_iald (D := G.1) hx hb hK.1 hP 11 0 rfl rfl g90 dX7_told_90 ?_
      refine lv_icmp_ne (tgt := 110) hx hb dX7_told_91 (by decide) (fun c_91 => ?_) (fun c_91 => ?_)
      · have h := br_F h c_91
        exact wX7_told_110 bx hP hK x1 x2 h _ (lv_sub hl [0, 1, 2] rfl)
      · have h := br_T h c_91
        refine lv_aload_n hx hb dX7_told_94 rfl (lv_at hl 0 rfl) ?_
        refine va_get (D := G.1) (ci := 8) (v := .int (C.1 5)) (C := RX7) (T := TX7) (N := 24) hx hb hts in_wsX7_told_X7 hown hK.1 hP 0 rfl rfl 21 (by decide) (w_mem hts 3 rfl) (fun _ h9 => h9) rfl dX7_told_95 ?_
        refine lv_aload_n hx hb dX7_told_98 rfl (lv_at hl 0 rfl) ?_
        refine va_get (D := G.1) (ci := 8) (v := .ref (q 10)) (C := RX7) (T := TX7) (N := 24) hx hb hts in_wsX7_told_X7 hown hK.1 hP 0 rfl rfl 9 (by decide) (w_mem hts 4 rfl) (fun _ h9 => h9) rfl dX7_told_99 ?_
        refine lv_iload_n hx hb dX7_told_102 rfl (lv_at hl 1 rfl) ?_
        obtain ⟨g103, h⟩ := gd_ex h
        refine va_iald (D := G.1) hx hb hK.1 hP 10 0 rfl rfl g103 dX7_told_103 ?_
        obtain ⟨r_4, hr_4, h⟩ := bd_ex h
        refine ro_i (va_runS (As := [.int (C.1 5), .int (C.2 9 x1.toNatClampNeg)]) (rest := []) ⟨hx, hb, hml, hown, hts⟩ (kX7_has l G q C (C.1 5) (C.2 9 x1.toNatClampNeg) r_4 hr_4) (va_cwS 2 hts gX7_told_X7_has rfl rfl rfl (by decide +kernel) ⟨Nat.le_of_ble_eq_true rfl, Nat.le_of_ble_eq_true rfl⟩) (roS hP hK) rfl rfl hl.1 rfl (lv_room (Nat.le_of_ble_eq_true rfl)) dX7_told_104 ⟨Nat.zero_le _, Nat.zero_le _⟩) ?_
        refine lv_if_ne (tgt := 136) hx hb dX7_told_107 (by decide) (fun c_107 => ?_) (fun c_107 => ?_)
        · have h := br_F h c_107
          refine lv_iconst (v := (-1)) hx hb dX7_told_136 (by decide) ?_
          refine lv_goto (tgt := 141) hx hb dX7_told_137 (by decide) ?_
          exact GoI.end hx hb hr hlocks dX7_told_141 rfl h
        · have h := br_T h c_107
          exact wX7_told_110 bx hP hK x1 x2 h _ (lv_sub hl [0, 1, 2] rfl)
  · have h := br_T h c_8
    refine lv_iload_n hx hb dX7_told_11 rfl (lv_at hl 2 rfl) ?_
    refine lv_aload_n hx hb dX7_told_12 rfl (lv_at hl 0 rfl) ?_
    refine va_get (D := G.1) (ci := 8) (v := .ref (q 11)) (C := RX7) (T := TX7) (N := 24) hx hb hts in_wsX7_told_X7 hown hK.1 hP 0 rfl rfl 10 (by decide) (w_mem hts 2 rfl) (fun _ h9 => h9) rfl dX7_told_13 ?_
    refine lv_iload_n hx hb dX7_told_16 rfl (lv_at hl 1 rfl) ?_
    obtain ⟨g17, h⟩ := gd_ex h
    refine va_iald (D := G.1) hx hb hK.1 hP 11 0 rfl rfl g17 dX7_told_17 ?_
    refine lv_icmp_ne (tgt := 41) hx hb dX7_told_18 (by decide) (fun c_18 => ?_) (fun c_18 => ?_)
    · have h := br_F h c_18
      exact wX7_told_41 bx hP hK x1 x2 h _ (lv_sub hl [0, 1, 2] rfl)
    · have h := br_T h c_18
      refine lv_aload_n hx hb dX7_told_21 rfl (lv_at hl 0 rfl) ?_
      refine va_get (D := G.1) (ci := 8) (v := .int (C.1 5)) (C := RX7) (T := TX7) (N := 24) hx hb hts in_wsX7_told_X7 hown hK.1 hP 0 rfl rfl 21 (by decide) (w_mem hts 3 rfl) (fun _ h9 => h9) rfl dX7_told_22 ?_
      refine lv_aload_n hx hb dX7_told_25 rfl (lv_at hl 0 rfl) ?_
      refine va_get (D := G.1) (ci := 8) (v := .ref (q 10)) (C := RX7) (T := TX7) (N := 24) hx hb hts in_wsX7_told_X7 hown hK.1 hP 0 rfl rfl 9 (by decide) (w_mem hts 4 rfl) (fun _ h9 => h9) rfl dX7_told_26 ?_
      refine lv_iload_n hx hb dX7_told_29 rfl (lv_at hl 1 rfl) ?_
      obtain ⟨g30, h⟩ := gd_ex h
      refine va_iald (D := G.1) hx hb hK.1 hP 10 0 rfl rfl g30 dX7_told_30 ?_
      obtain ⟨r_6, hr_6, h⟩ := bd_ex h
      refine ro_i (va_runS (As := [.int (C.1 5), .int (C.2 9 x1.toNatClampNeg)]) (rest := []) ⟨hx, hb, hml, hown, hts⟩ (kX7_has l G q C (C.1 5) (C.2 9 x1.toNatClampNeg) r_6 hr_6) (va_cwS 2 hts gX7_told_X7_has rfl rfl rfl (by decide +kernel) ⟨Nat.le_of_ble_eq_true rfl, Nat.le_of_ble_eq_true rfl⟩) (roS hP hK) rfl rfl hl.1 rfl (lv_room (Nat.le_of_ble_eq_true rfl)) dX7_told_31 ⟨Nat.zero_le _, Nat.zero_le _⟩) ?_
      refine lv_if_eq (tgt := 41) hx hb dX7_told_34 (by decide) (fun c_34 => ?_) (fun c_34 => ?_)
      · have h := br_T h c_34
        exact wX7_told_41 bx hP hK x1 x2 h _ (lv_sub hl [0, 1, 2] rfl)
      · have h := br_F h c_34
        refine lv_iconst (v := 1) hx hb dX7_told_37 (by decide) ?_
        refine lv_goto (tgt := 72) hx hb dX7_told_38 (by decide) ?_
        exact GoI.end hx hb hr hlocks dX7_told_72 rfl h

def rmX7_priced : Room := { frames := 1, cells := 0, slots := 0, locals := 40 }

theorem in_wsX7_priced_X7 : ∀ w ∈ u_ws RX7 TX7 24, w ∈ wsX7_priced := by decide +kernel

set_option maxHeartbeats 4000000 in
set_option maxRecDepth 100000 in
theorem wX7_priced_166 {p : Program} {l : Launch} {e : Env} {s : State} {m : MethodId} {args : Array Value} {below : List Frame} {meth : Method} {c : Code} {G : GT} {q : Nat → Nat} {C : St} {out : Int32} (bx : BX p RX7 wsX7_priced cX7_priced 4 (some .int) s m args meth c) (hP : va_P G.1 vwCl (MW G q C) s.heap) (hK : CK G s) {k41 : St → Int32 → Int32 → Int32 → Option (Int32)} (hk41 : ∀ (x1 : Int32) (x2 : Int32) (x3 : Int32), k41 C x1 x2 x3 = some out → ∀ (ls : Array Slot), lv_has ls 4 [(0, .ref (q 0)), (1, .int x1), (2, .int x2), (3, .int x3)] → GoI p l e rmX7_priced s m args below meth c out (F0 m 41 ls [])) (x1 : Int32) (x3 : Int32) (t0 : Int32) (t1 : Int32) (h : pX7_priced_166 k41 C x1 x3 t0 t1 = some out) (ls : Array Slot) (hl : lv_has ls 4 [(0, .ref (q 0)), (1, .int x1), (3, .int x3)]) : GoI p l e rmX7_priced s m args below meth c out (F0 m 166 ls [.int t1, .int t0]) := by
  obtain ⟨hx, hb, hr, hts, hown, hml, hlocks⟩ := id bx
  unfold pX7_priced_166 at h
  refine lv_iadd hx hb dX7_priced_166 ?_
  refine lv_topi (fun v_3 ev_3 => ?_)
  have h := ltv_at h v_3 ev_3
  refine lv_istore_n (lv' := [(2, .int v_3), (0, .ref (q 0)), (1, .int x1), (3, .int x3)]) hx hb dX7_priced_167 rfl hl (by decide) rfl (fun ls hl => ?_)
  obtain ⟨v_4, ev_4, h⟩ := ltv_ex h
  refine lv_iinc (v := v_4) (lv' := [(3, .int v_4), (2, .int v_3), (0, .ref (q 0)), (1, .int x1)]) hx hb dX7_priced_168 hl (k := 3) rfl (by rw [ev_4]; rfl) (by decide) rfl (fun ls hl => ?_)
  refine lv_goto (tgt := 41) hx hb dX7_priced_171 (by decide) ?_
  exact hk41 x1 v_3 v_4 h _ (lv_sub hl [2, 3, 1, 0] rfl)

set_option maxHeartbeats 4000000 in
set_option maxRecDepth 100000 in
theorem wX7_priced_126 {p : Program} {l : Launch} {e : Env} {s : State} {m : MethodId} {args : Array Value} {below : List Frame} {meth : Method} {c : Code} {G : GT} {q : Nat → Nat} {C : St} {out : Int32} (bx : BX p RX7 wsX7_priced cX7_priced 4 (some .int) s m args meth c) (hP : va_P G.1 vwCl (MW G q C) s.heap) (hK : CK G s) {k41 : St → Int32 → Int32 → Int32 → Option (Int32)} (hk41 : ∀ (x1 : Int32) (x2 : Int32) (x3 : Int32), k41 C x1 x2 x3 = some out → ∀ (ls : Array Slot), lv_has ls 4 [(0, .ref (q 0)), (1, .int x1), (2, .int x2), (3, .int x3)] → GoI p l e rmX7_priced s m args below meth c out (F0 m 41 ls [])) (x1 : Int32) (x3 : Int32) (t0 : Int32) (t1 : Int32) (h : pX7_priced_126 k41 C x1 x3 t0 t1 = some out) (ls : Array Slot) (hl : lv_has ls 4 [(0, .ref (q 0)), (1, .int x1), (3, .int x3)]) : GoI p l e rmX7_priced s m args below meth c out (F0 m 126 ls [.int t1, .int t0]) := by
  obtain ⟨hx, hb, hr, hts, hown, hml, hlocks⟩ := id bx
  unfold pX7_priced_126 at h
  refine lv_isub hx hb dX7_priced_126 ?_
  refine lv_topi (fun v_2 ev_2 => ?_)
  have h := ltv_at h v_2 ev_2
  refine lv_istore_n (lv' := [(2, .int v_2), (0, .ref (q 0)), (1, .int x1), (3, .int x3)]) hx hb dX7_priced_127 rfl hl (by decide) rfl (fun ls hl => ?_)
  refine lv_iload_n hx hb dX7_priced_128 rfl (lv_at hl 0 rfl) ?_
  refine lv_aload_n hx hb dX7_priced_129 rfl (lv_at hl 1 rfl) ?_
  refine va_get (D := G.1) (ci := 8) (v := .ref (q 8)) (C := RX7) (T := TX7) (N := 24) hx hb hts in_wsX7_priced_X7 hown hK.1 hP 0 rfl rfl 7 (by decide) (w_mem hts 4 rfl) (fun _ h9 => h9) rfl dX7_priced_130 ?_
  refine lv_iload_n hx hb dX7_priced_133 rfl (lv_at hl 3 rfl) ?_
  obtain ⟨g134, h⟩ := gd_ex h
  refine va_cald (D := G.1) hx hb hK.1 hP 8 1 rfl rfl g134 dX7_priced_134 ?_
  refine lv_bipush (v := 115) hx hb dX7_priced_135 (by decide) ?_
  refine lv_icmp_ne (tgt := 165) hx hb dX7_priced_137 (by decide) (fun c_137 => ?_) (fun c_137 => ?_)
  · have h := br_F h c_137
    refine lv_iconst (v := 0) hx hb dX7_priced_165 (by decide) ?_
    exact wX7_priced_166 bx hP hK hk41 x1 x3 v_2 0 h _ (lv_sub hl [1, 2, 3] rfl)
  · have h := br_T h c_137
    refine lv_aload_n hx hb dX7_priced_140 rfl (lv_at hl 1 rfl) ?_
    refine va_get (D := G.1) (ci := 8) (v := .ref (q 15)) (C := RX7) (T := TX7) (N := 24) hx hb hts in_wsX7_priced_X7 hown hK.1 hP 0 rfl rfl 14 (by decide) (w_mem hts 7 rfl) (fun _ h9 => h9) rfl dX7_priced_141 ?_
    refine lv_iload_n hx hb dX7_priced_144 rfl (lv_at hl 3 rfl) ?_
    obtain ⟨g145, h⟩ := gd_ex h
    refine va_iald (D := G.1) hx hb hK.1 hP 15 0 rfl rfl g145 dX7_priced_145 ?_
    refine lv_iconst (v := 0) hx hb dX7_priced_146 (by decide) ?_
    refine lv_iload_n hx hb dX7_priced_147 rfl (lv_at hl 2 rfl) ?_
    obtain ⟨r_5, hr_5, h⟩ := bd_ex h
    refine ro_i (va_runS (As := [.int x1]) (rest := [.int 0, .int (C.2 14 x3.toNatClampNeg), .int v_2]) ⟨hx, hb, hml, hown, hts⟩ (kJ6_bitCount_0f7a4 l x1 r_5 hr_5) (va_cwS 1 hts gX7_priced_J6_bitCount_0f7a4 rfl rfl rfl (by decide +kernel) ⟨Nat.le_of_ble_eq_true rfl, Nat.le_of_ble_eq_true rfl⟩) noS rfl rfl hl.1 rfl (lv_room (Nat.le_of_ble_eq_true rfl)) dX7_priced_148 ⟨Nat.zero_le _, Nat.zero_le _⟩) ?_
    refine lv_aload_n hx hb dX7_priced_151 rfl (lv_at hl 1 rfl) ?_
    refine va_get (D := G.1) (ci := 8) (v := .ref (q 13)) (C := RX7) (T := TX7) (N := 24) hx hb hts in_wsX7_priced_X7 hown hK.1 hP 0 rfl rfl 12 (by decide) (w_mem hts 5 rfl) (fun _ h9 => h9) rfl dX7_priced_152 ?_
    refine lv_iload_n hx hb dX7_priced_155 rfl (lv_at hl 3 rfl) ?_
    obtain ⟨g156, h⟩ := gd_ex h
    refine va_iald (D := G.1) hx hb hK.1 hP 13 0 rfl rfl g156 dX7_priced_156 ?_
    refine lv_isub hx hb dX7_priced_157 ?_
    refine va_mmax hx hb (hml.trans hl.1.symm) hown (w_mem hts 8 rfl) (w_mem hts 9 rfl) (w_mem hts 10 rfl) (w_mem hts 11 rfl) (Nat.le_of_ble_eq_true rfl) (Nat.le_of_ble_eq_true rfl) (Nat.zero_le _) (Nat.zero_le _) dX7_priced_158 ?_
    refine lv_imul hx hb dX7_priced_161 ?_
    refine lv_goto (tgt := 166) hx hb dX7_priced_162 (by decide) ?_
    exact wX7_priced_166 bx hP hK hk41 x1 x3 v_2 ((C.2 14 x3.toNatClampNeg) * (if 0 < (r_5 - (C.2 12 x3.toNatClampNeg)) then (r_5 - (C.2 12 x3.toNatClampNeg)) else 0)) h _ (lv_sub hl [1, 2, 3] rfl)

set_option maxHeartbeats 4000000 in
set_option maxRecDepth 100000 in
theorem wX7_priced_97 {p : Program} {l : Launch} {e : Env} {s : State} {m : MethodId} {args : Array Value} {below : List Frame} {meth : Method} {c : Code} {G : GT} {q : Nat → Nat} {C : St} {out : Int32} (bx : BX p RX7 wsX7_priced cX7_priced 4 (some .int) s m args meth c) (hP : va_P G.1 vwCl (MW G q C) s.heap) (hK : CK G s) {k41 : St → Int32 → Int32 → Int32 → Option (Int32)} (hk41 : ∀ (x1 : Int32) (x2 : Int32) (x3 : Int32), k41 C x1 x2 x3 = some out → ∀ (ls : Array Slot), lv_has ls 4 [(0, .ref (q 0)), (1, .int x1), (2, .int x2), (3, .int x3)] → GoI p l e rmX7_priced s m args below meth c out (F0 m 41 ls [])) (x1 : Int32) (x3 : Int32) (t0 : Int32) (t1 : Int32) (h : pX7_priced_97 k41 C x1 x3 t0 t1 = some out) (ls : Array Slot) (hl : lv_has ls 4 [(0, .ref (q 0)), (1, .int x1), (3, .int x3)]) : GoI p l e rmX7_priced s m args below meth c out (F0 m 97 ls [.int t1, .int t0]) := by
  obtain ⟨hx, hb, hr, hts, hown, hml, hlocks⟩ := id bx
  unfold pX7_priced_97 at h
  refine lv_isub hx hb dX7_priced_97 ?_
  refine lv_topi (fun v_1 ev_1 => ?_)
  have h := ltv_at h v_1 ev_1
  refine lv_istore_n (lv' := [(2, .int v_1), (0, .ref (q 0)), (1, .int x1), (3, .int x3)]) hx hb dX7_priced_98 rfl hl (by decide) rfl (fun ls hl => ?_)
  refine lv_iload_n hx hb dX7_priced_99 rfl (lv_at hl 0 rfl) ?_
  refine lv_aload_n hx hb dX7_priced_100 rfl (lv_at hl 1 rfl) ?_
  refine va_get (D := G.1) (ci := 8) (v := .ref (q 8)) (C := RX7) (T := TX7) (N := 24) hx hb hts in_wsX7_priced_X7 hown hK.1 hP 0 rfl rfl 7 (by decide) (w_mem hts 4 rfl) (fun _ h9 => h9) rfl dX7_priced_101 ?_
  refine lv_iload_n hx hb dX7_priced_104 rfl (lv_at hl 3 rfl) ?_
  obtain ⟨g105, h⟩ := gd_ex h
  refine va_cald (D := G.1) hx hb hK.1 hP 8 1 rfl rfl g105 dX7_priced_105 ?_
  refine lv_bipush (v := 112) hx hb dX7_priced_106 (by decide) ?_
  refine lv_icmp_ne (tgt := 125) hx hb dX7_priced_108 (by decide) (fun c_108 => ?_) (fun c_108 => ?_)
  · have h := br_F h c_108
    refine lv_iconst (v := 0) hx hb dX7_priced_125 (by decide) ?_
    exact wX7_priced_126 bx hP hK hk41 x1 x3 v_1 0 h _ (lv_sub hl [1, 2, 3] rfl)
  · have h := br_T h c_108
    refine lv_iload_n hx hb dX7_priced_111 rfl (lv_at hl 0 rfl) ?_
    refine lv_aload_n hx hb dX7_priced_112 rfl (lv_at hl 1 rfl) ?_
    refine va_get (D := G.1) (ci := 8) (v := .ref (q 15)) (C := RX7) (T := TX7) (N := 24) hx hb hts in_wsX7_priced_X7 hown hK.1 hP 0 rfl rfl 14 (by decide) (w_mem hts 7 rfl) (fun _ h9 => h9) rfl dX7_priced_113 ?_
    refine lv_iload_n hx hb dX7_priced_116 rfl (lv_at hl 3 rfl) ?_
    obtain ⟨g117, h⟩ := gd_ex h
    refine va_iald (D := G.1) hx hb hK.1 hP 15 0 rfl rfl g117 dX7_priced_117 ?_
    refine lv_imul hx hb dX7_priced_118 ?_
    refine lv_bipush (v := 100) hx hb dX7_priced_119 (by decide) ?_
    refine lv_idiv hx hb dX7_priced_121 (by decide) ?_
    refine lv_goto (tgt := 126) hx hb dX7_priced_122 (by decide) ?_
    exact wX7_priced_126 bx hP hK hk41 x1 x3 v_1 ((v_1 * (C.2 14 x3.toNatClampNeg)) / 100) h _ (lv_sub hl [1, 2, 3] rfl)

set_option maxHeartbeats 4000000 in
set_option maxRecDepth 100000 in
theorem wX7_priced_96 {p : Program} {l : Launch} {e : Env} {s : State} {m : MethodId} {args : Array Value} {below : List Frame} {meth : Method} {c : Code} {G : GT} {q : Nat → Nat} {C : St} {out : Int32} (bx : BX p RX7 wsX7_priced cX7_priced 4 (some .int) s m args meth c) (hP : va_P G.1 vwCl (MW G q C) s.heap) (hK : CK G s) {k41 : St → Int32 → Int32 → Int32 → Option (Int32)} (hk41 : ∀ (x1 : Int32) (x2 : Int32) (x3 : Int32), k41 C x1 x2 x3 = some out → ∀ (ls : Array Slot), lv_has ls 4 [(0, .ref (q 0)), (1, .int x1), (2, .int x2), (3, .int x3)] → GoI p l e rmX7_priced s m args below meth c out (F0 m 41 ls [])) (x1 : Int32) (x3 : Int32) (t0 : Int32) (h : pX7_priced_96 k41 C x1 x3 t0 = some out) (ls : Array Slot) (hl : lv_has ls 4 [(0, .ref (q 0)), (1, .int x1), (3, .int x3)]) : GoI p l e rmX7_priced s m args below meth c out (F0 m 96 ls [.int t0]) := by
  obtain ⟨hx, hb, hr, hts, hown, hml, hlocks⟩ := id bx
  unfold pX7_priced_96 at h
  refine lv_iconst (v := 0) hx hb dX7_priced_96 (by decide) ?_
  exact wX7_priced_97 bx hP hK hk41 x1 x3 t0 0 h _ (lv_sub hl [0, 1, 2] rfl)

set_option maxHeartbeats 4000000 in
set_option maxRecDepth 100000 in
theorem wX7_priced_41_b {p : Program} {l : Launch} {e : Env} {s : State} {m : MethodId} {args : Array Value} {below : List Frame} {meth : Method} {c : Code} {G : GT} {q : Nat → Nat} {C : St} {out : Int32} (bx : BX p RX7 wsX7_priced cX7_priced 4 (some .int) s m args meth c) (hP : va_P G.1 vwCl (MW G q C) s.heap) (hK : CK G s) {k41 : St → Int32 → Int32 → Int32 → Option (Int32)} (hk41 : ∀ (x1 : Int32) (x2 : Int32) (x3 : Int32), k41 C x1 x2 x3 = some out → ∀ (ls : Array Slot), lv_has ls 4 [(0, .ref (q 0)), (1, .int x1), (2, .int x2), (3, .int x3)] → GoI p l e rmX7_priced s m args below meth c out (F0 m 41 ls [])) (x1 : Int32) (x2 : Int32) (x3 : Int32) (h : pX7_priced_41_b k41 C x1 x2 x3 = some out) (ls : Array Slot) (hl : lv_has ls 4 [(0, .ref (q 0)), (1, .int x1), (2, .int x2), (3, .int x3)]) : GoI p l e rmX7_priced s m args below meth c out (F0 m 41 ls []) := by
  obtain ⟨hx, hb, hr, hts, hown, hml, hlocks⟩ := id bx
  unfold pX7_priced_41_b at h
  refine lv_iload_n hx hb dX7_priced_41 rfl (lv_at hl 3 rfl) ?_
  refine lv_aload_n hx hb dX7_priced_42 rfl (lv_at hl 0 rfl) ?_
  refine va_get (D := G.1) (ci := 8) (v := .int (C.1 2)) (C := RX7) (T := TX7) (N := 24) hx hb hts in_wsX7_priced_X7 hown hK.1 hP 0 rfl rfl 18 (by decide) (w_mem hts 3 rfl) (fun _ h9 => h9) rfl dX7_priced_43 ?_
  refine lv_icmp_ge (tgt := 174) hx hb dX7_priced_46 (by decide) (fun c_46 => ?_) (fun c_46 => ?_)
  · have h := br_T h c_46
    refine lv_iload_n hx hb dX7_priced_174 rfl (lv_at hl 2 rfl) ?_
    exact GoI.end hx hb hr hlocks dX7_priced_175 rfl h
  · have h := br_F h c_46
    refine lv_iload_n hx hb dX7_priced_49 rfl (lv_at hl 2 rfl) ?_
    refine lv_aload_n hx hb dX7_priced_50 rfl (lv_at hl 0 rfl) ?_
    refine va_get (D := G.1) (ci := 8) (v := .ref (q 8)) (C := RX7) (T := TX7) (N := 24) hx hb hts in_wsX7_priced_X7 hown hK.1 hP 0 rfl rfl 7 (by decide) (w_mem hts 4 rfl) (fun _ h9 => h9) rfl dX7_priced_51 ?_
    refine lv_iload_n hx hb dX7_priced_54 rfl (lv_at hl 3 rfl) ?_
    obtain ⟨g55, h⟩ := gd_ex h
    refine va_cald (D := G.1) hx hb hK.1 hP 8 1 rfl rfl g55 dX7_priced_55 ?_
    refine lv_bipush (v := 98) hx hb dX7_priced_56 (by decide) ?_
    refine lv_icmp_ne (tgt := 96) hx hb dX7_priced_58 (by decide) (fun c_58 => ?_) (fun c_58 => ?_)
    · have h := br_F h c_58
      exact wX7_priced_96 bx hP hK hk41 x1 x3 x2 h _ (lv_sub hl [0, 1, 3] rfl)
    · have h := br_T h c_58
      refine lv_iload_n hx hb dX7_priced_61 rfl (lv_at hl 1 rfl) ?_
      refine lv_aload_n hx hb dX7_priced_62 rfl (lv_at hl 0 rfl) ?_
      refine va_get (D := G.1) (ci := 8) (v := .ref (q 13)) (C := RX7) (T := TX7) (N := 24) hx hb hts in_wsX7_priced_X7 hown hK.1 hP 0 rfl rfl 12 (by decide) (w_mem hts 5 rfl) (fun _ h9 => h9) rfl dX7_priced_63 ?_
      refine lv_iload_n hx hb dX7_priced_66 rfl (lv_at hl 3 rfl) ?_
      obtain ⟨g67, h⟩ := gd_ex h
      refine va_iald (D := G.1) hx hb hK.1 hP 13 0 rfl rfl g67 dX7_priced_67 ?_
      obtain ⟨r_6, hr_6, h⟩ := bd_ex h
      refine ro_i (va_runS (As := [.int x1, .int (C.2 12 x3.toNatClampNeg)]) (rest := [.int x2]) ⟨hx, hb, hml, hown, hts⟩ (kX7_has l G q C x1 (C.2 12 x3.toNatClampNeg) r_6 hr_6) (va_cwS 2 hts gX7_priced_X7_has rfl rfl rfl (by decide +kernel) ⟨Nat.le_of_ble_eq_true rfl, Nat.le_of_ble_eq_true rfl⟩) (roS hP hK) rfl rfl hl.1 rfl (lv_room (Nat.le_of_ble_eq_true rfl)) dX7_priced_68 ⟨Nat.zero_le _, Nat.zero_le _⟩) ?_
      refine lv_if_eq (tgt := 96) hx hb dX7_priced_71 (by decide) (fun c_71 => ?_) (fun c_71 => ?_)
      · have h := br_T h c_71
        exact wX7_priced_96 bx hP hK hk41 x1 x3 x2 h _ (lv_sub hl [0, 1, 3] rfl)
      · have h := br_F h c_71
        refine lv_iload_n hx hb dX7_priced_74 rfl (lv_at hl 1 rfl) ?_
        refine lv_aload_n hx hb dX7_priced_75 rfl (lv_at hl 0 rfl) ?_
        refine va_get (D := G.1) (ci := 8) (v := .ref (q 14)) (C := RX7) (T := TX7) (N := 24) hx hb hts in_wsX7_priced_X7 hown hK.1 hP 0 rfl rfl 13 (by decide) (w_mem hts 6 rfl) (fun _ h9 => h9) rfl dX7_priced_76 ?_
        refine lv_iload_n hx hb dX7_priced_79 rfl (lv_at hl 3 rfl) ?_
        obtain ⟨g80, h⟩ := gd_ex h
        refine va_iald (D := G.1) hx hb hK.1 hP 14 0 rfl rfl g80 dX7_priced_80 ?_
        obtain ⟨r_7, hr_7, h⟩ := bd_ex h
        refine ro_i (va_runS (As := [.int x1, .int (C.2 13 x3.toNatClampNeg)]) (rest := [.int x2]) ⟨hx, hb, hml, hown, hts⟩ (kX7_has l G q C x1 (C.2 13 x3.toNatClampNeg) r_7 hr_7) (va_cwS 2 hts gX7_priced_X7_has rfl rfl rfl (by decide +kernel) ⟨Nat.le_of_ble_eq_true rfl, Nat.le_of_ble_eq_true rfl⟩) (roS hP hK) rfl rfl hl.1 rfl (lv_room (Nat.le_of_ble_eq_true rfl)) dX7_priced_81 ⟨Nat.zero_le _, Nat.zero_le _⟩) ?_
        refine lv_if_eq (tgt := 96) hx hb dX7_priced_84 (by decide) (fun c_84 => ?_) (fun c_84 => ?_)
        · have h := br_T h c_84
          exact wX7_priced_96 bx hP hK hk41 x1 x3 x2 h _ (lv_sub hl [0, 1, 3] rfl)
        · have h := br_F h c_84
          refine lv_aload_n hx hb dX7_priced_87 rfl (lv_at hl 0 rfl) ?_
          refine va_get (D := G.1) (ci := 8) (v := .ref (q 15)) (C := RX7) (T := TX7) (N := 24) hx hb hts in_wsX7_priced_X7 hown hK.1 hP 0 rfl rfl 14 (by decide) (w_mem hts 7 rfl) (fun _ h9 => h9) rfl dX7_priced_88 ?_
          refine lv_iload_n hx hb dX7_priced_91 rfl (lv_at hl 3 rfl) ?_
          obtain ⟨g92, h⟩ := gd_ex h
          refine va_iald (D := G.1) hx hb hK.1 hP 15 0 rfl rfl g92 dX7_priced_92 ?_
          refine lv_goto (tgt := 97) hx hb dX7_priced_93 (by decide) ?_
          exact wX7_priced_97 bx hP hK hk41 x1 x3 x2 (C.2 14 x3.toNatClampNeg) h _ (lv_sub hl [0, 1, 3] rfl)

theorem wX7_priced_41 {p : Program} {l : Launch} {e : Env} {s : State} {m : MethodId} {args : Array Value} {below : List Frame} {meth : Method} {c : Code} {G : GT} {q : Nat → Nat} {C : St} {out : Int32} (bx : BX p RX7 wsX7_priced cX7_priced 4 (some .int) s m args meth c) (hP : va_P G.1 vwCl (MW G q C) s.heap) (hK : CK G s) :
    ∀ (n : Nat) (x1 : Int32) (x2 : Int32) (x3 : Int32), pX7_priced_41 n C x1 x2 x3 = some out → ∀ (ls : Array Slot), lv_has ls 4 [(0, .ref (q 0)), (1, .int x1), (2, .int x2), (3, .int x3)] → GoI p l e rmX7_priced s m args below meth c out (F0 m 41 ls []) := by
  intro n
  induction n with
  | zero => intro _ _ _ h; cases h
  | succ n ih => exact fun a0 a1 a2 h ls hl => wX7_priced_41_b bx hP hK ih a0 a1 a2 h ls hl

set_option maxHeartbeats 4000000 in
set_option maxRecDepth 100000 in
theorem wX7_priced_31 {p : Program} {l : Launch} {e : Env} {s : State} {m : MethodId} {args : Array Value} {below : List Frame} {meth : Method} {c : Code} {G : GT} {q : Nat → Nat} {C : St} {out : Int32} (bx : BX p RX7 wsX7_priced cX7_priced 4 (some .int) s m args meth c) (hP : va_P G.1 vwCl (MW G q C) s.heap) (hK : CK G s) {k4 : St → Int32 → Int32 → Int32 → Option (Int32)} (hk4 : ∀ (x1 : Int32) (x2 : Int32) (x3 : Int32), k4 C x1 x2 x3 = some out → ∀ (ls : Array Slot), lv_has ls 4 [(0, .ref (q 0)), (1, .int x1), (2, .int x2), (3, .int x3)] → GoI p l e rmX7_priced s m args below meth c out (F0 m 4 ls [])) (x1 : Int32) (x3 : Int32) (t0 : Int32) (t1 : Int32) (h : pX7_priced_31 k4 C x1 x3 t0 t1 = some out) (ls : Array Slot) (hl : lv_has ls 4 [(0, .ref (q 0)), (1, .int x1), (3, .int x3)]) : GoI p l e rmX7_priced s m args below meth c out (F0 m 31 ls [.int t1, .int t0]) := by
  obtain ⟨hx, hb, hr, hts, hown, hml, hlocks⟩ := id bx
  unfold pX7_priced_31 at h
  refine lv_iadd hx hb dX7_priced_31 ?_
  refine lv_topi (fun v_9 ev_9 => ?_)
  have h := ltv_at h v_9 ev_9
  refine lv_istore_n (lv' := [(2, .int v_9), (0, .ref (q 0)), (1, .int x1), (3, .int x3)]) hx hb dX7_priced_32 rfl hl (by decide) rfl (fun ls hl => ?_)
  obtain ⟨v_10, ev_10, h⟩ := ltv_ex h
  refine lv_iinc (v := v_10) (lv' := [(3, .int v_10), (2, .int v_9), (0, .ref (q 0)), (1, .int x1)]) hx hb dX7_priced_33 hl (k := 3) rfl (by rw [ev_10]; rfl) (by decide) rfl (fun ls hl => ?_)
  refine lv_goto (tgt := 4) hx hb dX7_priced_36 (by decide) ?_
  exact hk4 x1 v_9 v_10 h _ (lv_sub hl [2, 3, 1, 0] rfl)

set_option maxHeartbeats 4000000 in
set_option maxRecDepth 100000 in
theorem wX7_priced_4_b {p : Program} {l : Launch} {e : Env} {s : State} {m : MethodId} {args : Array Value} {below : List Frame} {meth : Method} {c : Code} {G : GT} {q : Nat → Nat} {C : St} {out : Int32} (bx : BX p RX7 wsX7_priced cX7_priced 4 (some .int) s m args meth c) (hP : va_P G.1 vwCl (MW G q C) s.heap) (hK : CK G s) {k4 : St → Int32 → Int32 → Int32 → Option (Int32)} (hk4 : ∀ (x1 : Int32) (x2 : Int32) (x3 : Int32), k4 C x1 x2 x3 = some out → ∀ (ls : Array Slot), lv_has ls 4 [(0, .ref (q 0)), (1, .int x1), (2, .int x2), (3, .int x3)] → GoI p l e rmX7_priced s m args below meth c out (F0 m 4 ls [])) (x1 : Int32) (x2 : Int32) (x3 : Int32) (h : pX7_priced_4_b k4 C x1 x2 x3 = some out) (ls : Array Slot) (hl : lv_has ls 4 [(0, .ref (q 0)), (1, .int x1), (2, .int x2), (3, .int x3)]) : GoI p l e rmX7_priced s m args below meth c out (F0 m 4 ls []) := by
  obtain ⟨hx, hb, hr, hts, hown, hml, hlocks⟩ := id bx
  unfold pX7_priced_4_b at h
  refine lv_iload_n hx hb dX7_priced_4 rfl (lv_at hl 3 rfl) ?_
  refine lv_aload_n hx hb dX7_priced_5 rfl (lv_at hl 0 rfl) ?_
  refine va_get (D := G.1) (ci := 8) (v := .int (C.1 0)) (C := RX7) (T := TX7) (N := 24) hx hb hts in_wsX7_priced_X7 hown hK.1 hP 0 rfl rfl 16 (by decide) (w_mem hts 1 rfl) (fun _ h9 => h9) rfl dX7_priced_6 ?_
  refine lv_icmp_ge (tgt := 39) hx hb dX7_priced_9 (by decide) (fun c_9 => ?_) (fun c_9 => ?_)
  · have h := br_T h c_9
    refine lv_iconst (v := 0) hx hb dX7_priced_39 (by decide) ?_
    refine lv_istore_n (lv' := [(3, .int 0), (0, .ref (q 0)), (1, .int x1), (2, .int x2)]) hx hb dX7_priced_40 rfl hl (by decide) rfl (fun ls hl => ?_)
    exact wX7_priced_41 bx hP hK FU x1 x2 0 h _ (lv_sub hl [1, 2, 3, 0] rfl)
  · have h := br_F h c_9
    refine lv_iload_n hx hb dX7_priced_12 rfl (lv_at hl 2 rfl) ?_
    refine lv_iload_n hx hb dX7_priced_13 rfl (lv_at hl 1 rfl) ?_
    refine lv_iload_n hx hb dX7_priced_14 rfl (lv_at hl 3 rfl) ?_
    obtain ⟨r_8, hr_8, h⟩ := bd_ex h
    refine ro_i (va_runS (As := [.int x1, .int x3]) (rest := [.int x2]) ⟨hx, hb, hml, hown, hts⟩ (kX7_has l G q C x1 x3 r_8 hr_8) (va_cwS 2 hts gX7_priced_X7_has rfl rfl rfl (by decide +kernel) ⟨Nat.le_of_ble_eq_true rfl, Nat.le_of_ble_eq_true rfl⟩) (roS hP hK) rfl rfl hl.1 rfl (lv_room (Nat.le_of_ble_eq_true rfl)) dX7_priced_15 ⟨Nat.zero_le _, Nat.zero_le _⟩) ?_
    refine lv_if_eq (tgt := 30) hx hb dX7_priced_18 (by decide) (fun c_18 => ?_) (fun c_18 => ?_)
    · have h := br_T h c_18
      refine lv_iconst (v := 0) hx hb dX7_priced_30 (by decide) ?_
      exact wX7_priced_31 bx hP hK hk4 x1 x3 x2 0 h _ (lv_sub hl [0, 1, 3] rfl)
    · have h := br_F h c_18
      refine lv_aload_n hx hb dX7_priced_21 rfl (lv_at hl 0 rfl) ?_
      refine va_get (D := G.1) (ci := 8) (v := .ref (q 2)) (C := RX7) (T := TX7) (N := 24) hx hb hts in_wsX7_priced_X7 hown hK.1 hP 0 rfl rfl 1 (by decide) (w_mem hts 2 rfl) (fun _ h9 => h9) rfl dX7_priced_22 ?_
      refine lv_iload_n hx hb dX7_priced_25 rfl (lv_at hl 3 rfl) ?_
      obtain ⟨g26, h⟩ := gd_ex h
      refine va_iald (D := G.1) hx hb hK.1 hP 2 0 rfl rfl g26 dX7_priced_26 ?_
      refine lv_goto (tgt := 31) hx hb dX7_priced_27 (by decide) ?_
      exact wX7_priced_31 bx hP hK hk4 x1 x3 x2 (C.2 1 x3.toNatClampNeg) h _ (lv_sub hl [0, 1, 3] rfl)

theorem wX7_priced_4 {p : Program} {l : Launch} {e : Env} {s : State} {m : MethodId} {args : Array Value} {below : List Frame} {meth : Method} {c : Code} {G : GT} {q : Nat → Nat} {C : St} {out : Int32} (bx : BX p RX7 wsX7_priced cX7_priced 4 (some .int) s m args meth c) (hP : va_P G.1 vwCl (MW G q C) s.heap) (hK : CK G s) :
    ∀ (n : Nat) (x1 : Int32) (x2 : Int32) (x3 : Int32), pX7_priced_4 n C x1 x2 x3 = some out → ∀ (ls : Array Slot), lv_has ls 4 [(0, .ref (q 0)), (1, .int x1), (2, .int x2), (3, .int x3)] → GoI p l e rmX7_priced s m args below meth c out (F0 m 4 ls []) := by
  intro n
  induction n with
  | zero => intro _ _ _ h; cases h
  | succ n ih => exact fun a0 a1 a2 h ls hl => wX7_priced_4_b bx hP hK ih a0 a1 a2 h ls hl

set_option maxHeartbeats 4000000 in
set_option maxRecDepth 100000 in
theorem kX7_priced (l : Launch) (G : GT) (q : Nat → Nat) (C : St) (x1 : Int32) (r : Int32) (h : pX7_priced C x1 = some r) : Met l yX7_priced wsX7_priced rmX7_priced (va_Pc [.ref (q 0), .int x1] (roP G (MW G q C))) (vp_Si (fun v => v = r)) 0 0 (fun _ => False) := by
  refine Met.ofW (cc := cX7_priced) (maxL := 4) (ret := (some .int)) (by decide) rfl ?_
  intro p e s m args below meth c s₁ B hml hv
  obtain ⟨rfl, hP, hK⟩ := hv
  have bx := bx_of B hml
  obtain ⟨hx, hb, hr, hts, hown, hml, hlocks⟩ := id bx
  have hl := lv_entry ([.ref (q 0), .int x1]) (n := 4) (Nat.le_of_ble_eq_true rfl)
  rw [lg_entry_eq]
  generalize (lg_sl ([.ref (q 0), .int x1]) ++ List.replicate (4 - (lg_sl ([.ref (q 0), .int x1])).length) Slot.unset).toArray = ls at hl ⊢
  have hl : lv_has ls 4 [(0, .ref (q 0)), (1, .int x1)] := hl
  show GoI p l e rmX7_priced s m _ below meth c r (F0 m 0 ls [])
  unfold pX7_priced at h
  refine lv_iconst (v := 0) hx hb dX7_priced_0 (by decide) ?_
  refine lv_istore_n (lv' := [(2, .int 0), (0, .ref (q 0)), (1, .int x1)]) hx hb dX7_priced_1 rfl hl (by decide) rfl (fun ls hl => ?_)
  refine lv_iconst (v := 0) hx hb dX7_priced_2 (by decide) ?_
  refine lv_istore_n (lv' := [(3, .int 0), (2, .int 0), (0, .ref (q 0)), (1, .int x1)]) hx hb dX7_priced_3 rfl hl (by decide) rfl (fun ls hl => ?_)
  exact wX7_priced_4 bx hP hK FU x1 0 0 h _ (lv_sub hl [2, 3, 1, 0] rfl)

def rmX7_isCheaper : Room := { frames := 2, cells := 0, slots := 0, locals := 63 }

set_option maxHeartbeats 4000000 in
set_option maxRecDepth 100000 in
theorem kX7_isCheaper (l : Launch) (G : GT) (q : Nat → Nat) (C : St) (x1 : Int32) (x2 : Int32) (r : Int32) (h : pX7_isCheaper C x1 x2 = some r) : Met l yX7_isCheaper wsX7_isCheaper rmX7_isCheaper (va_Pc [.ref (q 0), .int x1, .int x2] (roP G (MW G q C))) (vp_Si (fun v => v = r)) 0 0 (fun _ => False) := by
  refine Met.ofW (cc := cX7_isCheaper) (maxL := 7) (ret := (some .boolean)) (by decide) rfl ?_
  intro p e s m args below meth c s₁ B hml hv
  obtain ⟨rfl, hP, hK⟩ := hv
  have bx := bx_of B hml
  obtain ⟨hx, hb, hr, hts, hown, hml, hlocks⟩ := id bx
  have hl := lv_entry ([.ref (q 0), .int x1, .int x2]) (n := 7) (Nat.le_of_ble_eq_true rfl)
  rw [lg_entry_eq]
  generalize (lg_sl ([.ref (q 0), .int x1, .int x2]) ++ List.replicate (7 - (lg_sl ([.ref (q 0), .int x1, .int x2])).length) Slot.unset).toArray = ls at hl ⊢
  have hl : lv_has ls 7 [(0, .ref (q 0)), (1, .int x1), (2, .int x2)] := hl
  show GoI p l e rmX7_isCheaper s m _ below meth c r (F0 m 0 ls [])
  unfold pX7_isCheaper at h
  refine lv_aload_n hx hb dX7_isCheaper_0 rfl (lv_at hl 0 rfl) ?_
  refine lv_iload_n hx hb dX7_isCheaper_1 rfl (lv_at hl 1 rfl) ?_
  obtain ⟨r_1, hr_1, h⟩ := bd_ex h
  refine ro_i (va_runV (As := [.int x1]) (rest := []) ⟨hx, hb, hml, hown, hts⟩ (kX7_priced l G q C x1 r_1 hr_1) (cwV 1 hts gX7_isCheaper_X7_priced rfl rfl rfl (by decide +kernel) ⟨Nat.le_of_ble_eq_true rfl, Nat.le_of_ble_eq_true rfl⟩) (roV hP hK 8 0 rfl rfl) rfl rfl hl.1 rfl (lv_room (Nat.le_of_ble_eq_true rfl)) dX7_isCheaper_2 ⟨Nat.zero_le _, Nat.zero_le _⟩) ?_
  refine lv_istore_n (lv' := [(3, .int r_1), (0, .ref (q 0)), (1, .int x1), (2, .int x2)]) hx hb dX7_isCheaper_5 rfl hl (by decide) rfl (fun ls hl => ?_)
  refine lv_aload_n hx hb dX7_isCheaper_6 rfl (lv_at hl 1 rfl) ?_
  refine lv_iload_n hx hb dX7_isCheaper_7 rfl (lv_at hl 3 rfl) ?_
  obtain ⟨r_2, hr_2, h⟩ := bd_ex h
  refine ro_i (va_runV (As := [.int x2]) (rest := []) ⟨hx, hb, hml, hown, hts⟩ (kX7_priced l G q C x2 r_2 hr_2) (cwV 1 hts gX7_isCheaper_X7_priced rfl rfl rfl (by decide +kernel) ⟨Nat.le_of_ble_eq_true rfl, Nat.le_of_ble_eq_true rfl⟩) (roV hP hK 8 0 rfl rfl) rfl rfl hl.1 rfl (lv_room (Nat.le_of_ble_eq_true rfl)) dX7_isCheaper_8 ⟨Nat.zero_le _, Nat.zero_le _⟩) ?_
  refine lv_istore (lv' := [(4, .int r_2), (3, .int r_1), (0, .ref (q 0)), (1, .int x1), (2, .int x2)]) hx hb dX7_isCheaper_11 hl (by decide) rfl (fun ls hl => ?_)
  refine lv_iload_n hx hb dX7_isCheaper_13 rfl (lv_at hl 3 rfl) ?_
  obtain ⟨r_3, hr_3, h⟩ := bd_ex h
  refine ro_i (va_runS (As := [.int x1]) (rest := []) ⟨hx, hb, hml, hown, hts⟩ (kJ6_bitCount_0f7a4 l x1 r_3 hr_3) (va_cwS 1 hts gX7_isCheaper_J6_bitCount_0f7a4 rfl rfl rfl (by decide +kernel) ⟨Nat.le_of_ble_eq_true rfl, Nat.le_of_ble_eq_true rfl⟩) noS rfl rfl hl.1 rfl (lv_room (Nat.le_of_ble_eq_true rfl)) dX7_isCheaper_14 ⟨Nat.zero_le _, Nat.zero_le _⟩) ?_
  refine lv_istore (lv' := [(5, .int r_3), (4, .int r_2), (3, .int r_1), (0, .ref (q 0)), (1, .int x1), (2, .int x2)]) hx hb dX7_isCheaper_17 hl (by decide) rfl (fun ls hl => ?_)
  refine lv_iload_n hx hb dX7_isCheaper_19 rfl (lv_at hl 5 rfl) ?_
  obtain ⟨r_4, hr_4, h⟩ := bd_ex h
  refine ro_i (va_runS (As := [.int x2]) (rest := []) ⟨hx, hb, hml, hown, hts⟩ (kJ6_bitCount_0f7a4 l x2 r_4 hr_4) (va_cwS 1 hts gX7_isCheaper_J6_bitCount_0f7a4 rfl rfl rfl (by decide +kernel) ⟨Nat.le_of_ble_eq_true rfl, Nat.le_of_ble_eq_true rfl⟩) noS rfl rfl hl.1 rfl (lv_room (Nat.le_of_ble_eq_true rfl)) dX7_isCheaper_20 ⟨Nat.zero_le _, Nat.zero_le _⟩) ?_
  refine lv_istore (lv' := [(6, .int r_4), (5, .int r_3), (4, .int r_2), (3, .int r_1), (0, .ref (q 0)), (1, .int x1), (2, .int x2)]) hx hb dX7_isCheaper_23 hl (by decide) rfl (fun ls hl => ?_)
  refine lv_iload_n hx hb dX7_isCheaper_25 rfl (lv_at hl 3 rfl) ?_
  refine lv_iload hx hb dX7_isCheaper_26 (lv_at hl 2 rfl) ?_
  refine lv_icmp_lt (tgt := 56) hx hb dX7_isCheaper_28 (by decide) (fun c_28 => ?_) (fun c_28 => ?_)
  · have h := br_T h c_28
    refine lv_iconst (v := 1) hx hb dX7_isCheaper_56 (by decide) ?_
    refine lv_goto (tgt := 61) hx hb dX7_isCheaper_57 (by decide) ?_
    exact GoI.end hx hb hr hlocks dX7_isCheaper_61 rfl h
  · have h := br_F h c_28
    refine lv_iload_n hx hb dX7_isCheaper_31 rfl (lv_at hl 3 rfl) ?_
    refine lv_iload hx hb dX7_isCheaper_32 (lv_at hl 2 rfl) ?_
    refine lv_icmp_ne (tgt := 60) hx hb dX7_isCheaper_34 (by decide) (fun c_34 => ?_) (fun c_34 => ?_)
    · have h := br_F h c_34
      refine lv_iconst (v := 0) hx hb dX7_isCheaper_60 (by decide) ?_
      exact GoI.end hx hb hr hlocks dX7_isCheaper_61 rfl h
    · have h := br_T h c_34
      refine lv_iload hx hb dX7_isCheaper_37 (lv_at hl 1 rfl) ?_
      refine lv_iload hx hb dX7_isCheaper_39 (lv_at hl 0 rfl) ?_
      refine lv_icmp_lt (tgt := 56) hx hb dX7_isCheaper_41 (by decide) (fun c_41 => ?_) (fun c_41 => ?_)
      · have h := br_T h c_41
        refine lv_iconst (v := 1) hx hb dX7_isCheaper_56 (by decide) ?_
        refine lv_goto (tgt := 61) hx hb dX7_isCheaper_57 (by decide) ?_
        exact GoI.end hx hb hr hlocks dX7_isCheaper_61 rfl h
      · have h := br_F h c_41
        refine lv_iload hx hb dX7_isCheaper_44 (lv_at hl 1 rfl) ?_
        refine lv_iload hx hb dX7_isCheaper_46 (lv_at hl 0 rfl) ?_
        refine lv_icmp_ne (tgt := 60) hx hb dX7_isCheaper_48 (by decide) (fun c_48 => ?_) (fun c_48 => ?_)
        · have h := br_F h c_48
          refine lv_iconst (v := 0) hx hb dX7_isCheaper_60 (by decide) ?_
          exact GoI.end hx hb hr hlocks dX7_isCheaper_61 rfl h
        · have h := br_T h c_48
          refine lv_iload_n hx hb dX7_isCheaper_51 rfl (lv_at hl 5 rfl) ?_
          refine lv_iload_n hx hb dX7_isCheaper_52 rfl (lv_at hl 6 rfl) ?_
          refine lv_icmp_ge (tgt := 60) hx hb dX7_isCheaper_53 (by decide) (fun c_53 => ?_) (fun c_53 => ?_)
          · have h := br_T h c_53
            refine lv_iconst (v := 0) hx hb dX7_isCheaper_60 (by decide) ?_
            exact GoI.end hx hb hr hlocks dX7_isCheaper_61 rfl h
          · have h := br_F h c_53
            refine lv_iconst (v := 1) hx hb dX7_isCheaper_56 (by decide) ?_
            refine lv_goto (tgt := 61) hx hb dX7_isCheaper_57 (by decide) ?_
            exact GoI.end hx hb hr hlocks dX7_isCheaper_61 rfl h

def rmX7_wrong : Room := { frames := 3, cells := 0, slots := 0, locals := 68 }

theorem in_wsX7_wrong_X7 : ∀ w ∈ u_ws RX7 TX7 24, w ∈ wsX7_wrong := by decide +kernel

set_option maxHeartbeats 4000000 in
set_option maxRecDepth 100000 in
theorem wX7_wrong_97 {p : Program} {l : Launch} {e : Env} {s : State} {m : MethodId} {args : Array Value} {below : List Frame} {meth : Method} {c : Code} {G : GT} {q : Nat → Nat} {C : St} {out : Int32} (bx : BX p RX7 wsX7_wrong cX7_wrong 7 (some .int) s m args meth c) (hP : va_P G.1 vwCl (MW G q C) s.heap) (hK : CK G s) {k5 : St → Int32 → Int32 → Int32 → Int32 → Option (Int32)} (hk5 : ∀ (x1 : Int32) (x2 : Int32) (x3 : Int32) (x4 : Int32), k5 C x1 x2 x3 x4 = some out → ∀ (ls : Array Slot), lv_has ls 7 [(0, .ref (q 0)), (1, .int x1), (2, .int x2), (3, .int x3), (4, .int x4)] → GoI p l e rmX7_wrong s m args below meth c out (F0 m 5 ls [])) (x1 : Int32) (x2 : Int32) (x3 : Int32) (x4 : Int32) (h : pX7_wrong_97 k5 C x1 x2 x3 x4 = some out) (ls : Array Slot) (hl : lv_has ls 7 [(0, .ref (q 0)), (1, .int x1), (2, .int x2), (3, .int x3), (4, .int x4)]) : GoI p l e rmX7_wrong s m args below meth c out (F0 m 97 ls []) := by
  obtain ⟨hx, hb, hr, hts, hown, hml, hlocks⟩ := id bx
  unfold pX7_wrong_97 at h
  obtain ⟨v_2, ev_2, h⟩ := ltv_ex h
  refine lv_iinc (v := v_2) (lv' := [(4, .int v_2), (0, .ref (q 0)), (1, .int x1), (2, .int x2), (3, .int x3)]) hx hb dX7_wrong_97 hl (k := 4) rfl (by rw [ev_2]; rfl) (by decide) rfl (fun ls hl => ?_)
  refine lv_goto (tgt := 5) hx hb dX7_wrong_100 (by decide) ?_
  exact hk5 x1 x2 x3 v_2 h _ (lv_sub hl [1, 2, 3, 4, 0] rfl)

set_option maxHeartbeats 4000000 in
set_option maxRecDepth 100000 in
theorem wX7_wrong_96 {p : Program} {l : Launch} {e : Env} {s : State} {m : MethodId} {args : Array Value} {below : List Frame} {meth : Method} {c : Code} {G : GT} {q : Nat → Nat} {C : St} {out : Int32} (bx : BX p RX7 wsX7_wrong cX7_wrong 7 (some .int) s m args meth c) (hP : va_P G.1 vwCl (MW G q C) s.heap) (hK : CK G s) {k5 : St → Int32 → Int32 → Int32 → Int32 → Option (Int32)} (hk5 : ∀ (x1 : Int32) (x2 : Int32) (x3 : Int32) (x4 : Int32), k5 C x1 x2 x3 x4 = some out → ∀ (ls : Array Slot), lv_has ls 7 [(0, .ref (q 0)), (1, .int x1), (2, .int x2), (3, .int x3), (4, .int x4)] → GoI p l e rmX7_wrong s m args below meth c out (F0 m 5 ls [])) (x1 : Int32) (x2 : Int32) (x4 : Int32) (t0 : Int32) (h : pX7_wrong_96 k5 C x1 x2 x4 t0 = some out) (ls : Array Slot) (hl : lv_has ls 7 [(0, .ref (q 0)), (1, .int x1), (2, .int x2), (4, .int x4)]) : GoI p l e rmX7_wrong s m args below meth c out (F0 m 96 ls [.int t0]) := by
  obtain ⟨hx, hb, hr, hts, hown, hml, hlocks⟩ := id bx
  unfold pX7_wrong_96 at h
  refine lv_istore_n (lv' := [(3, .int t0), (0, .ref (q 0)), (1, .int x1), (2, .int x2), (4, .int x4)]) hx hb dX7_wrong_96 rfl hl (by decide) rfl (fun ls hl => ?_)
  exact wX7_wrong_97 bx hP hK hk5 x1 x2 t0 x4 h _ (lv_sub hl [1, 2, 3, 0, 4] rfl)

set_option maxHeartbeats 4000000 in
set_option maxRecDepth 100000 in
theorem wX7_wrong_90 {p : Program} {l : Launch} {e : Env} {s : State} {m : MethodId} {args : Array Value} {below : List Frame} {meth : Method} {c : Code} {G : GT} {q : Nat → Nat} {C : St} {out : Int32} (bx : BX p RX7 wsX7_wrong cX7_wrong 7 (some .int) s m args meth c) (hP : va_P G.1 vwCl (MW G q C) s.heap) (hK : CK G s) {k5 : St → Int32 → Int32 → Int32 → Int32 → Option (Int32)} (hk5 : ∀ (x1 : Int32) (x2 : Int32) (x3 : Int32) (x4 : Int32), k5 C x1 x2 x3 x4 = some out → ∀ (ls : Array Slot), lv_has ls 7 [(0, .ref (q 0)), (1, .int x1), (2, .int x2), (3, .int x3), (4, .int x4)] → GoI p l e rmX7_wrong s m args below meth c out (F0 m 5 ls [])) (x1 : Int32) (x2 : Int32) (x4 : Int32) (x5 : Int32) (h : pX7_wrong_90 k5 C x1 x2 x4 x5 = some out) (ls : Array Slot) (hl : lv_has ls 7 [(0, .ref (q 0)), (1, .int x1), (2, .int x2), (4, .int x4), (5, .int x5)]) : GoI p l e rmX7_wrong s m args below meth c out (F0 m 90 ls []) := by
  obtain ⟨hx, hb, hr, hts, hown, hml, hlocks⟩ := id bx
  unfold pX7_wrong_90 at h
  refine lv_iload hx hb dX7_wrong_90 (lv_at hl 4 rfl) ?_
  refine lv_goto (tgt := 96) hx hb dX7_wrong_92 (by decide) ?_
  exact wX7_wrong_96 bx hP hK hk5 x1 x2 x4 x5 h _ (lv_sub hl [0, 1, 2, 3] rfl)

set_option maxHeartbeats 4000000 in
set_option maxRecDepth 100000 in
theorem wX7_wrong_95 {p : Program} {l : Launch} {e : Env} {s : State} {m : MethodId} {args : Array Value} {below : List Frame} {meth : Method} {c : Code} {G : GT} {q : Nat → Nat} {C : St} {out : Int32} (bx : BX p RX7 wsX7_wrong cX7_wrong 7 (some .int) s m args meth c) (hP : va_P G.1 vwCl (MW G q C) s.heap) (hK : CK G s) {k5 : St → Int32 → Int32 → Int32 → Int32 → Option (Int32)} (hk5 : ∀ (x1 : Int32) (x2 : Int32) (x3 : Int32) (x4 : Int32), k5 C x1 x2 x3 x4 = some out → ∀ (ls : Array Slot), lv_has ls 7 [(0, .ref (q 0)), (1, .int x1), (2, .int x2), (3, .int x3), (4, .int x4)] → GoI p l e rmX7_wrong s m args below meth c out (F0 m 5 ls [])) (x1 : Int32) (x2 : Int32) (x3 : Int32) (x4 : Int32) (h : pX7_wrong_95 k5 C x1 x2 x3 x4 = some out) (ls : Array Slot) (hl : lv_has ls 7 [(0, .ref (q 0)), (1, .int x1), (2, .int x2), (3, .int x3), (4, .int x4)]) : GoI p l e rmX7_wrong s m args below meth c out (F0 m 95 ls []) := by
  obtain ⟨hx, hb, hr, hts, hown, hml, hlocks⟩ := id bx
  unfold pX7_wrong_95 at h
  refine lv_iload_n hx hb dX7_wrong_95 rfl (lv_at hl 3 rfl) ?_
  exact wX7_wrong_96 bx hP hK hk5 x1 x2 x4 x3 h _ (lv_sub hl [0, 1, 2, 4] rfl)

set_option maxHeartbeats 4000000 in
set_option maxRecDepth 100000 in
theorem wX7_wrong_72 {p : Program} {l : Launch} {e : Env} {s : State} {m : MethodId} {args : Array Value} {below : List Frame} {meth : Method} {c : Code} {G : GT} {q : Nat → Nat} {C : St} {out : Int32} (bx : BX p RX7 wsX7_wrong cX7_wrong 7 (some .int) s m args meth c) (hP : va_P G.1 vwCl (MW G q C) s.heap) (hK : CK G s) {k5 : St → Int32 → Int32 → Int32 → Int32 → Option (Int32)} (hk5 : ∀ (x1 : Int32) (x2 : Int32) (x3 : Int32) (x4 : Int32), k5 C x1 x2 x3 x4 = some out → ∀ (ls : Array Slot), lv_has ls 7 [(0, .ref (q 0)), (1, .int x1), (2, .int x2), (3, .int x3), (4, .int x4)] → GoI p l e rmX7_wrong s m args below meth c out (F0 m 5 ls [])) (x1 : Int32) (x2 : Int32) (x3 : Int32) (x4 : Int32) (x5 : Int32) (t0 : Int32) (h : pX7_wrong_72 k5 C x1 x2 x3 x4 x5 t0 = some out) (ls : Array Slot) (hl : lv_has ls 7 [(0, .ref (q 0)), (1, .int x1), (2, .int x2), (3, .int x3), (4, .int x4), (5, .int x5)]) : GoI p l e rmX7_wrong s m args below meth c out (F0 m 72 ls [.int t0]) := by
  obtain ⟨hx, hb, hr, hts, hown, hml, hlocks⟩ := id bx
  unfold pX7_wrong_72 at h
  refine lv_istore (lv' := [(6, .int t0), (0, .ref (q 0)), (1, .int x1), (2, .int x2), (3, .int x3), (4, .int x4), (5, .int x5)]) hx hb dX7_wrong_72 hl (by decide) rfl (fun ls hl => ?_)
  refine lv_iload hx hb dX7_wrong_74 (lv_at hl 0 rfl) ?_
  refine lv_if_lt (tgt := 90) hx hb dX7_wrong_76 (by decide) (fun c_76 => ?_) (fun c_76 => ?_)
  · have h := br_T h c_76
    exact wX7_wrong_90 bx hP hK hk5 x1 x2 x4 x5 h _ (lv_sub hl [1, 2, 3, 5, 6] rfl)
  · have h := br_F h c_76
    refine lv_iload hx hb dX7_wrong_79 (lv_at hl 0 rfl) ?_
    refine lv_if_ne (tgt := 95) hx hb dX7_wrong_81 (by decide) (fun c_81 => ?_) (fun c_81 => ?_)
    · have h := br_F h c_81
      exact wX7_wrong_95 bx hP hK hk5 x1 x2 x3 x4 h _ (lv_sub hl [1, 2, 3, 4, 5] rfl)
    · have h := br_T h c_81
      refine lv_iload hx hb dX7_wrong_84 (lv_at hl 6 rfl) ?_
      refine lv_iload_n hx hb dX7_wrong_86 rfl (lv_at hl 4 rfl) ?_
      refine lv_icmp_ge (tgt := 95) hx hb dX7_wrong_87 (by decide) (fun c_87 => ?_) (fun c_87 => ?_)
      · have h := br_T h c_87
        exact wX7_wrong_95 bx hP hK hk5 x1 x2 x3 x4 h _ (lv_sub hl [1, 2, 3, 4, 5] rfl)
      · have h := br_F h c_87
        exact wX7_wrong_90 bx hP hK hk5 x1 x2 x4 x5 h _ (lv_sub hl [1, 2, 3, 5, 6] rfl)

set_option maxHeartbeats 4000000 in
set_option maxRecDepth 100000 in
theorem wX7_wrong_5_b {p : Program} {l : Launch} {e : Env} {s : State} {m : MethodId} {args : Array Value} {below : List Frame} {meth : Method} {c : Code} {G : GT} {q : Nat → Nat} {C : St} {out : Int32} (bx : BX p RX7 wsX7_wrong cX7_wrong 7 (some .int) s m args meth c) (hP : va_P G.1 vwCl (MW G q C) s.heap) (hK : CK G s) {k5 : St → Int32 → Int32 → Int32 → Int32 → Option (Int32)} (hk5 : ∀ (x1 : Int32) (x2 : Int32) (x3 : Int32) (x4 : Int32), k5 C x1 x2 x3 x4 = some out → ∀ (ls : Array Slot), lv_has ls 7 [(0, .ref (q 0)), (1, .int x1), (2, .int x2), (3, .int x3), (4, .int x4)] → GoI p l e rmX7_wrong s m args below meth c out (F0 m 5 ls [])) (x1 : Int32) (x2 : Int32) (x3 : Int32) (x4 : Int32) (h : pX7_wrong_5_b k5 C x1 x2 x3 x4 = some out) (ls : Array Slot) (hl : lv_has ls 7 [(0, .ref (q 0)), (1, .int x1), (2, .int x2), (3, .int x3), (4, .int x4)]) : GoI p l e rmX7_wrong s m args below meth c out (F0 m 5 ls []) := by
  obtain ⟨hx, hb, hr, hts, hown, hml, hlocks⟩ := id bx
  unfold pX7_wrong_5_b at h
  refine lv_iload hx hb dX7_wrong_5 (lv_at hl 4 rfl) ?_
  refine lv_iconst (v := 1) hx hb dX7_wrong_7 (by decide) ?_
  refine lv_aload_n hx hb dX7_wrong_8 rfl (lv_at hl 0 rfl) ?_
  refine va_get (D := G.1) (ci := 8) (v := .int (C.1 0)) (C := RX7) (T := TX7) (N := 24) hx hb hts in_wsX7_wrong_X7 hown hK.1 hP 0 rfl rfl 16 (by decide) (w_mem hts 1 rfl) (fun _ h9 => h9) rfl dX7_wrong_9 ?_
  refine lv_ishl hx hb dX7_wrong_12 ?_
  refine lv_icmp_ge (tgt := 103) hx hb dX7_wrong_13 (by decide) (fun c_13 => ?_) (fun c_13 => ?_)
  · have h := br_T h c_13
    refine lv_iload_n hx hb dX7_wrong_103 rfl (lv_at hl 3 rfl) ?_
    exact GoI.end hx hb hr hlocks dX7_wrong_104 rfl h
  · have h := br_F h c_13
    refine lv_iload hx hb dX7_wrong_16 (lv_at hl 4 rfl) ?_
    refine lv_iload_n hx hb dX7_wrong_18 rfl (lv_at hl 1 rfl) ?_
    obtain ⟨r_1, hr_1, h⟩ := bd_ex h
    refine ro_i (va_runS (As := [.int x4, .int x1]) (rest := []) ⟨hx, hb, hml, hown, hts⟩ (kX7_has l G q C x4 x1 r_1 hr_1) (va_cwS 2 hts gX7_wrong_X7_has rfl rfl rfl (by decide +kernel) ⟨Nat.le_of_ble_eq_true rfl, Nat.le_of_ble_eq_true rfl⟩) (roS hP hK) rfl rfl hl.1 rfl (lv_room (Nat.le_of_ble_eq_true rfl)) dX7_wrong_19 ⟨Nat.zero_le _, Nat.zero_le _⟩) ?_
    refine lv_iload_n hx hb dX7_wrong_22 rfl (lv_at hl 2 rfl) ?_
    refine lv_icmp_ne (tgt := 97) hx hb dX7_wrong_23 (by decide) (fun c_23 => ?_) (fun c_23 => ?_)
    · have h := br_F h c_23
      exact wX7_wrong_97 bx hP hK hk5 x1 x2 x3 x4 h _ (lv_sub hl [0, 1, 2, 3, 4] rfl)
    · have h := br_T h c_23
      refine lv_aload_n hx hb dX7_wrong_26 rfl (lv_at hl 0 rfl) ?_
      refine lv_iload hx hb dX7_wrong_27 (lv_at hl 4 rfl) ?_
      obtain ⟨r_3, hr_3, h⟩ := bd_ex h
      refine ro_i (va_runV (As := [.int x4]) (rest := []) ⟨hx, hb, hml, hown, hts⟩ (kX7_isGood l G q C x4 r_3 hr_3) (cwV 1 hts gX7_wrong_X7_isGood rfl rfl rfl (by decide +kernel) ⟨Nat.le_of_ble_eq_true rfl, Nat.le_of_ble_eq_true rfl⟩) (roV hP hK 8 0 rfl rfl) rfl rfl hl.1 rfl (lv_room (Nat.le_of_ble_eq_true rfl)) dX7_wrong_29 ⟨Nat.zero_le _, Nat.zero_le _⟩) ?_
      refine lv_if_eq (tgt := 97) hx hb dX7_wrong_32 (by decide) (fun c_32 => ?_) (fun c_32 => ?_)
      · have h := br_T h c_32
        exact wX7_wrong_97 bx hP hK hk5 x1 x2 x3 x4 h _ (lv_sub hl [0, 1, 2, 3, 4] rfl)
      · have h := br_F h c_32
        refine lv_aload_n hx hb dX7_wrong_35 rfl (lv_at hl 0 rfl) ?_
        refine va_get (D := G.1) (ci := 8) (v := .int (C.1 3)) (C := RX7) (T := TX7) (N := 24) hx hb hts in_wsX7_wrong_X7 hown hK.1 hP 0 rfl rfl 19 (by decide) (w_mem hts 2 rfl) (fun _ h9 => h9) rfl dX7_wrong_36 ?_
        refine lv_iload hx hb dX7_wrong_39 (lv_at hl 4 rfl) ?_
        refine lv_iconst (v := (-1)) hx hb dX7_wrong_41 (by decide) ?_
        refine lv_ixor hx hb dX7_wrong_42 ?_
        refine lv_iand hx hb dX7_wrong_43 ?_
        refine lv_aload_n hx hb dX7_wrong_44 rfl (lv_at hl 0 rfl) ?_
        refine va_get (D := G.1) (ci := 8) (v := .int (C.1 4)) (C := RX7) (T := TX7) (N := 24) hx hb hts in_wsX7_wrong_X7 hown hK.1 hP 0 rfl rfl 20 (by decide) (w_mem hts 3 rfl) (fun _ h9 => h9) rfl dX7_wrong_45 ?_
        refine lv_iload hx hb dX7_wrong_48 (lv_at hl 4 rfl) ?_
        refine lv_iand hx hb dX7_wrong_50 ?_
        refine lv_ior hx hb dX7_wrong_51 ?_
        refine lv_topi (fun v_4 ev_4 => ?_)
        have h := ltv_at h v_4 ev_4
        refine lv_istore (lv' := [(5, .int v_4), (0, .ref (q 0)), (1, .int x1), (2, .int x2), (3, .int x3), (4, .int x4)]) hx hb dX7_wrong_52 hl (by decide) rfl (fun ls hl => ?_)
        refine lv_iload_n hx hb dX7_wrong_54 rfl (lv_at hl 4 rfl) ?_
        refine lv_if_ge (tgt := 62) hx hb dX7_wrong_55 (by decide) (fun c_55 => ?_) (fun c_55 => ?_)
        · have h := br_T h c_55
          refine lv_iload hx hb dX7_wrong_62 (lv_at hl 0 rfl) ?_
          obtain ⟨r_5, hr_5, h⟩ := bd_ex h
          refine ro_i (va_runS (As := [.int v_4]) (rest := []) ⟨hx, hb, hml, hown, hts⟩ (kJ6_bitCount_0f7a4 l v_4 r_5 hr_5) (va_cwS 1 hts gX7_wrong_J6_bitCount_0f7a4 rfl rfl rfl (by decide +kernel) ⟨Nat.le_of_ble_eq_true rfl, Nat.le_of_ble_eq_true rfl⟩) noS rfl rfl hl.1 rfl (lv_room (Nat.le_of_ble_eq_true rfl)) dX7_wrong_64 ⟨Nat.zero_le _, Nat.zero_le _⟩) ?_
          refine lv_iload_n hx hb dX7_wrong_67 rfl (lv_at hl 4 rfl) ?_
          obtain ⟨r_6, hr_6, h⟩ := bd_ex h
          refine ro_i (va_runS (As := [.int x3]) (rest := [.int r_5]) ⟨hx, hb, hml, hown, hts⟩ (kJ6_bitCount_0f7a4 l x3 r_6 hr_6) (va_cwS 1 hts gX7_wrong_J6_bitCount_0f7a4 rfl rfl rfl (by decide +kernel) ⟨Nat.le_of_ble_eq_true rfl, Nat.le_of_ble_eq_true rfl⟩) noS rfl rfl hl.1 rfl (lv_room (Nat.le_of_ble_eq_true rfl)) dX7_wrong_68 ⟨Nat.zero_le _, Nat.zero_le _⟩) ?_
          refine lv_isub hx hb dX7_wrong_71 ?_
          exact wX7_wrong_72 bx hP hK hk5 x1 x2 x3 x4 v_4 (r_5 - r_6) h _ (lv_sub hl [1, 2, 3, 4, 5, 0] rfl)
        · have h := br_F h c_55
          refine lv_iconst (v := (-1)) hx hb dX7_wrong_58 (by decide) ?_
          refine lv_goto (tgt := 72) hx hb dX7_wrong_59 (by decide) ?_
          exact wX7_wrong_72 bx hP hK hk5 x1 x2 x3 x4 v_4 (-1) h _ (lv_sub hl [1, 2, 3, 4, 5, 0] rfl)

theorem wX7_wrong_5 {p : Program} {l : Launch} {e : Env} {s : State} {m : MethodId} {args : Array Value} {below : List Frame} {meth : Method} {c : Code} {G : GT} {q : Nat → Nat} {C : St} {out : Int32} (bx : BX p RX7 wsX7_wrong cX7_wrong 7 (some .int) s m args meth c) (hP : va_P G.1 vwCl (MW G q C) s.heap) (hK : CK G s) :
    ∀ (n : Nat) (x1 : Int32) (x2 : Int32) (x3 : Int32) (x4 : Int32), pX7_wrong_5 n C x1 x2 x3 x4 = some out → ∀ (ls : Array Slot), lv_has ls 7 [(0, .ref (q 0)), (1, .int x1), (2, .int x2), (3, .int x3), (4, .int x4)] → GoI p l e rmX7_wrong s m args below meth c out (F0 m 5 ls []) := by
  intro n
  induction n with
  | zero => intro _ _ _ _ h; cases h
  | succ n ih => exact fun a0 a1 a2 a3 h ls hl => wX7_wrong_5_b bx hP hK ih a0 a1 a2 a3 h ls hl

set_option maxHeartbeats 4000000 in
set_option maxRecDepth 100000 in
theorem kX7_wrong (l : Launch) (G : GT) (q : Nat → Nat) (C : St) (x1 : Int32) (x2 : Int32) (r : Int32) (h : pX7_wrong C x1 x2 = some r) : Met l yX7_wrong wsX7_wrong rmX7_wrong (va_Pc [.ref (q 0), .int x1, .int x2] (roP G (MW G q C))) (vp_Si (fun v => v = r)) 0 0 (fun _ => False) := by
  refine Met.ofW (cc := cX7_wrong) (maxL := 7) (ret := (some .int)) (by decide) rfl ?_
  intro p e s m args below meth c s₁ B hml hv
  obtain ⟨rfl, hP, hK⟩ := hv
  have bx := bx_of B hml
  obtain ⟨hx, hb, hr, hts, hown, hml, hlocks⟩ := id bx
  have hl := lv_entry ([.ref (q 0), .int x1, .int x2]) (n := 7) (Nat.le_of_ble_eq_true rfl)
  rw [lg_entry_eq]
  generalize (lg_sl ([.ref (q 0), .int x1, .int x2]) ++ List.replicate (7 - (lg_sl ([.ref (q 0), .int x1, .int x2])).length) Slot.unset).toArray = ls at hl ⊢
  have hl : lv_has ls 7 [(0, .ref (q 0)), (1, .int x1), (2, .int x2)] := hl
  show GoI p l e rmX7_wrong s m _ below meth c r (F0 m 0 ls [])
  unfold pX7_wrong at h
  refine lv_iconst (v := (-1)) hx hb dX7_wrong_0 (by decide) ?_
  refine lv_istore_n (lv' := [(3, .int (-1)), (0, .ref (q 0)), (1, .int x1), (2, .int x2)]) hx hb dX7_wrong_1 rfl hl (by decide) rfl (fun ls hl => ?_)
  refine lv_iconst (v := 1) hx hb dX7_wrong_2 (by decide) ?_
  refine lv_istore (lv' := [(4, .int 1), (3, .int (-1)), (0, .ref (q 0)), (1, .int x1), (2, .int x2)]) hx hb dX7_wrong_3 hl (by decide) rfl (fun ls hl => ?_)
  exact wX7_wrong_5 bx hP hK FU x1 x2 (-1) 1 h _ (lv_sub hl [2, 3, 4, 1, 0] rfl)

def rmX7_thrown : Room := { frames := 0, cells := 0, slots := 0, locals := 0 }

theorem in_wsX7_thrown_X7 : ∀ w ∈ u_ws RX7 TX7 24, w ∈ wsX7_thrown := by decide +kernel

set_option maxHeartbeats 4000000 in
set_option maxRecDepth 100000 in
theorem kX7_thrown (l : Launch) (G : GT) (q : Nat → Nat) (C : St) (r : Int32) (h : pX7_thrown C = some r) : Met l yX7_thrown wsX7_thrown rmX7_thrown (va_Pc [.ref (q 0)] (roP G (MW G q C))) (vp_Si (fun v => v = r)) 0 0 (fun _ => False) := by
  refine Met.ofW (cc := cX7_thrown) (maxL := 1) (ret := (some .int)) (by decide) rfl ?_
  intro p e s m args below meth c s₁ B hml hv
  obtain ⟨rfl, hP, hK⟩ := hv
  have bx := bx_of B hml
  obtain ⟨hx, hb, hr, hts, hown, hml, hlocks⟩ := id bx
  have hl := lv_entry ([.ref (q 0)]) (n := 1) (Nat.le_of_ble_eq_true rfl)
  rw [lg_entry_eq]
  generalize (lg_sl ([.ref (q 0)]) ++ List.replicate (1 - (lg_sl ([.ref (q 0)])).length) Slot.unset).toArray = ls at hl ⊢
  have hl : lv_has ls 1 [(0, .ref (q 0))] := hl
  show GoI p l e rmX7_thrown s m _ below meth c r (F0 m 0 ls [])
  unfold pX7_thrown at h
  refine lv_aload_n hx hb dX7_thrown_0 rfl (lv_at hl 0 rfl) ?_
  refine va_get (D := G.1) (ci := 8) (v := .int (C.1 7)) (C := RX7) (T := TX7) (N := 24) hx hb hts in_wsX7_thrown_X7 hown hK.1 hP 0 rfl rfl 23 (by decide) (w_mem hts 1 rfl) (fun _ h9 => h9) rfl dX7_thrown_1 ?_
  exact GoI.end hx hb hr hlocks dX7_thrown_4 rfl h
