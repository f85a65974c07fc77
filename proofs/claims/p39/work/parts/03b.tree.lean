def rmX6_has : Room := { frames := 0, cells := 0, slots := 0, locals := 0 }

set_option maxHeartbeats 4000000 in
set_option maxRecDepth 100000 in
theorem kX6_has (l : Launch) (G : GT) (q : Nat → Nat) (C : St) (x0 : Int32) (x1 : Int32) (r : Int32) (h : pX6_has C x0 x1 = some r) : Met l yX6_has wsX6_has rmX6_has (va_Pc [.int x0, .int x1] (roP G (CW G q C))) (vp_Si (fun v => v = r)) 0 0 (fun _ => False) := by
  refine Met.ofW (cc := cX6_has) (maxL := 2) (ret := (some .boolean)) (by decide) rfl ?_
  intro p e s m args below meth c s₁ B hml hv
  obtain ⟨rfl, hP, hK⟩ := hv
  have bx := bx_of B hml
  obtain ⟨hx, hb, hr, hts, hown, hml, hlocks⟩ := id bx
  have hl := lv_entry ([.int x0, .int x1]) (n := 2) (Nat.le_of_ble_eq_true rfl)
  rw [lg_entry_eq]
  generalize (lg_sl ([.int x0, .int x1]) ++ List.replicate (2 - (lg_sl ([.int x0, .int x1])).length) Slot.unset).toArray = ls at hl ⊢
  have hl : lv_has ls 2 [(0, .int x0), (1, .int x1)] := hl
  show GoI p l e rmX6_has s m _ below meth c r (F0 m 0 ls [])
  unfold pX6_has at h
  refine lv_iload_n hx hb dX6_has_0 rfl (lv_at hl 0 rfl) ?_
  refine lv_iload_n hx hb dX6_has_1 rfl (lv_at hl 1 rfl) ?_
  refine lv_ishr hx hb dX6_has_2 ?_
  refine lv_iconst (v := 1) hx hb dX6_has_3 (by decide) ?_
  refine lv_iand hx hb dX6_has_4 ?_
  refine lv_if_eq (tgt := 12) hx hb dX6_has_5 (by decide) (fun c_5 => ?_) (fun c_5 => ?_)
  · have h := br_T h c_5
    refine lv_iconst (v := 0) hx hb dX6_has_12 (by decide) ?_
    exact GoI.end hx hb hr hlocks dX6_has_13 rfl h
  · have h := br_F h c_5
    refine lv_iconst (v := 1) hx hb dX6_has_8 (by decide) ?_
    refine lv_goto (tgt := 13) hx hb dX6_has_9 (by decide) ?_
    exact GoI.end hx hb hr hlocks dX6_has_13 rfl h

def rmX5_allFeatures : Room := { frames := 0, cells := 0, slots := 0, locals := 0 }

theorem in_wsX5_allFeatures_X5 : ∀ w ∈ u_ws RX5 TX5 6, w ∈ wsX5_allFeatures := by decide +kernel

set_option maxHeartbeats 4000000 in
set_option maxRecDepth 100000 in
theorem kX5_allFeatures (l : Launch) (G : GT) (q : Nat → Nat) (C : St) (r : Int32) (h : pX5_allFeatures C = some r) : Met l yX5_allFeatures wsX5_allFeatures rmX5_allFeatures (va_Pc [.ref (q 1)] (roP G (CW G q C))) (vp_Si (fun v => v = r)) 0 0 (fun _ => False) := by
  refine Met.ofW (cc := cX5_allFeatures) (maxL := 1) (ret := (some .int)) (by decide) rfl ?_
  intro p e s m args below meth c s₁ B hml hv
  obtain ⟨rfl, hP, hK⟩ := hv
  have bx := bx_of B hml
  obtain ⟨hx, hb, hr, hts, hown, hml, hlocks⟩ := id bx
  have hl := lv_entry ([.ref (q 1)]) (n := 1) (Nat.le_of_ble_eq_true rfl)
  rw [lg_entry_eq]
  generalize (lg_sl ([.ref (q 1)]) ++ List.replicate (1 - (lg_sl ([.ref (q 1)])).length) Slot.unset).toArray = ls at hl ⊢
  have hl : lv_has ls 1 [(0, .ref (q 1))] := hl
  show GoI p l e rmX5_allFeatures s m _ below meth c r (F0 m 0 ls [])
  unfold pX5_allFeatures at h
  refine lv_iconst (v := 1) hx hb dX5_allFeatures_0 (by decide) ?_
  refine lv_aload_n hx hb dX5_allFeatures_1 rfl (lv_at hl 0 rfl) ?_
  refine va_get (D := G.1) (ci := 4) (v := .int (C.1 3)) (C := RX5) (T := TX5) (N := 6) hx hb hts in_wsX5_allFeatures_X5 hown hK.1 hP 1 rfl rfl 5 (by decide) (w_mem hts 1 rfl) (fun _ h9 => h9) rfl dX5_allFeatures_2 ?_
  refine lv_ishl hx hb dX5_allFeatures_5 ?_
  refine lv_iconst (v := 1) hx hb dX5_allFeatures_6 (by decide) ?_
  refine lv_isub hx hb dX5_allFeatures_7 ?_
  exact GoI.end hx hb hr hlocks dX5_allFeatures_8 rfl h

def rmX5_allowsAt : Room := { frames := 1, cells := 0, slots := 0, locals := 21 }

theorem in_wsX5_allowsAt_X5 : ∀ w ∈ u_ws RX5 TX5 6, w ∈ wsX5_allowsAt := by decide +kernel

set_option maxHeartbeats 4000000 in
set_option maxRecDepth 100000 in
theorem wX5_allowsAt_21 {p : Program} {l : Launch} {e : Env} {s : State} {m : MethodId} {args : Array Value} {below : List Frame} {meth : Method} {c : Code} {G : GT} {q : Nat → Nat} {C : St} {out : Int32} (bx : BX p RX5 wsX5_allowsAt cX5_allowsAt 6 (some .boolean) s m args meth c) (hP : va_P G.1 vwCl (CW G q C) s.heap) (hK : CK G s) (x1 : Int32) (x2 : Int32) (h : pX5_allowsAt_21 C x1 x2 = some out) (ls : Array Slot) (hl : lv_has ls 6 [(0, .ref (q 1)), (1, .int x1), (2, .int x2)]) : GoI p l e rmX5_allowsAt s m args below meth c out (F0 m 21 ls []) := by
  obtain ⟨hx, hb, hr, hts, hown, hml, hlocks⟩ := id bx
  unfold pX5_allowsAt_21 at h
  refine lv_aload_n hx hb dX5_allowsAt_21 rfl (lv_at hl 0 rfl) ?_
  refine va_get (D := G.1) (ci := 4) (v := .ref (q 7)) (C := RX5) (T := TX5) (N := 6) hx hb hts in_wsX5_allowsAt_X5 hown hK.1 hP 1 rfl rfl 1 (by decide) (w_mem hts 2 rfl) (fun _ h9 => h9) rfl dX5_allowsAt_22 ?_
  refine lv_iload_n hx hb dX5_allowsAt_25 rfl (lv_at hl 1 rfl) ?_
  obtain ⟨g26, h⟩ := gd_ex h
  refine va_iald (D := G.1) hx hb hK.1 hP 7 0 rfl rfl g26 dX5_allowsAt_26 ?_
  refine lv_topi (fun v_2 ev_2 => ?_)
  have h := ltv_at h v_2 ev_2
  refine lv_istore (lv' := [(4, .int v_2), (0, .ref (q 1)), (1, .int x1), (2, .int x2)]) hx hb dX5_allowsAt_27 hl (by decide) rfl (fun ls hl => ?_)
  refine lv_iload hx hb dX5_allowsAt_29 (lv_at hl 0 rfl) ?_
  refine lv_iload_n hx hb dX5_allowsAt_31 rfl (lv_at hl 3 rfl) ?_
  refine lv_iand hx hb dX5_allowsAt_32 ?_
  obtain ⟨r_3, hr_3, h⟩ := bd_ex h
  refine ro_i (va_runS (As := [.int (v_2 &&& x2)]) (rest := []) ⟨hx, hb, hml, hown, hts⟩ (kJ6_bitCount_0f7a4 l (v_2 &&& x2) r_3 hr_3) (va_cwS 1 hts gX5_allowsAt_J6_bitCount_0f7a4 rfl rfl rfl (by decide +kernel) ⟨Nat.le_of_ble_eq_true rfl, Nat.le_of_ble_eq_true rfl⟩) noS rfl rfl hl.1 rfl (lv_room (Nat.le_of_ble_eq_true rfl)) dX5_allowsAt_33 ⟨Nat.zero_le _, Nat.zero_le _⟩) ?_
  refine lv_istore (lv' := [(5, .int r_3), (4, .int v_2), (0, .ref (q 1)), (1, .int x1), (2, .int x2)]) hx hb dX5_allowsAt_36 hl (by decide) rfl (fun ls hl => ?_)
  refine lv_iload hx hb dX5_allowsAt_38 (lv_at hl 1 rfl) ?_
  refine lv_aload_n hx hb dX5_allowsAt_40 rfl (lv_at hl 2 rfl) ?_
  refine va_get (D := G.1) (ci := 4) (v := .int (C.1 2)) (C := RX5) (T := TX5) (N := 6) hx hb hts in_wsX5_allowsAt_X5 hown hK.1 hP 1 rfl rfl 4 (by decide) (w_mem hts 3 rfl) (fun _ h9 => h9) rfl dX5_allowsAt_41 ?_
  refine lv_iand hx hb dX5_allowsAt_44 ?_
  refine lv_iload_n hx hb dX5_allowsAt_45 rfl (lv_at hl 4 rfl) ?_
  refine lv_iconst (v := (-1)) hx hb dX5_allowsAt_46 (by decide) ?_
  refine lv_ixor hx hb dX5_allowsAt_47 ?_
  refine lv_iand hx hb dX5_allowsAt_48 ?_
  refine lv_if_ne (tgt := 78) hx hb dX5_allowsAt_49 (by decide) (fun c_49 => ?_) (fun c_49 => ?_)
  · have h := br_F h c_49
    refine lv_iconst (v := 0) hx hb dX5_allowsAt_78 (by decide) ?_
    exact GoI.end hx hb hr hlocks dX5_allowsAt_79 rfl h
  · have h := br_T h c_49
    refine lv_iload hx hb dX5_allowsAt_52 (lv_at hl 0 rfl) ?_
    refine lv_aload_n hx hb dX5_allowsAt_54 rfl (lv_at hl 2 rfl) ?_
    refine va_get (D := G.1) (ci := 4) (v := .ref (q 8)) (C := RX5) (T := TX5) (N := 6) hx hb hts in_wsX5_allowsAt_X5 hown hK.1 hP 1 rfl rfl 2 (by decide) (w_mem hts 4 rfl) (fun _ h9 => h9) rfl dX5_allowsAt_55 ?_
    refine lv_iload_n hx hb dX5_allowsAt_58 rfl (lv_at hl 3 rfl) ?_
    obtain ⟨g59, h⟩ := gd_ex h
    refine va_iald (D := G.1) hx hb hK.1 hP 8 0 rfl rfl g59 dX5_allowsAt_59 ?_
    refine lv_icmp_lt (tgt := 78) hx hb dX5_allowsAt_60 (by decide) (fun c_60 => ?_) (fun c_60 => ?_)
    · have h := br_T h c_60
      refine lv_iconst (v := 0) hx hb dX5_allowsAt_78 (by decide) ?_
      exact GoI.end hx hb hr hlocks dX5_allowsAt_79 rfl h
    · have h := br_F h c_60
      refine lv_iload hx hb dX5_allowsAt_63 (lv_at hl 0 rfl) ?_
      refine lv_aload_n hx hb dX5_allowsAt_65 rfl (lv_at hl 2 rfl) ?_
      refine va_get (D := G.1) (ci := 4) (v := .ref (q 9)) (C := RX5) (T := TX5) (N := 6) hx hb hts in_wsX5_allowsAt_X5 hown hK.1 hP 1 rfl rfl 3 (by decide) (w_mem hts 5 rfl) (fun _ h9 => h9) rfl dX5_allowsAt_66 ?_
      refine lv_iload_n hx hb dX5_allowsAt_69 rfl (lv_at hl 3 rfl) ?_
      obtain ⟨g70, h⟩ := gd_ex h
      refine va_iald (D := G.1) hx hb hK.1 hP 9 0 rfl rfl g70 dX5_allowsAt_70 ?_
      refine lv_icmp_gt (tgt := 78) hx hb dX5_allowsAt_71 (by decide) (fun c_71 => ?_) (fun c_71 => ?_)
      · have h := br_T h c_71
        refine lv_iconst (v := 0) hx hb dX5_allowsAt_78 (by decide) ?_
        exact GoI.end hx hb hr hlocks dX5_allowsAt_79 rfl h
      · have h := br_F h c_71
        refine lv_iconst (v := 1) hx hb dX5_allowsAt_74 (by decide) ?_
        refine lv_goto (tgt := 79) hx hb dX5_allowsAt_75 (by decide) ?_
        exact GoI.end hx hb hr hlocks dX5_allowsAt_79 rfl h

set_option maxHeartbeats 4000000 in
set_option maxRecDepth 100000 in
theorem kX5_allowsAt (l : Launch) (G : GT) (q : Nat → Nat) (C : St) (x1 : Int32) (x2 : Int32) (r : Int32) (h : pX5_allowsAt C x1 x2 = some r) : Met l yX5_allowsAt wsX5_allowsAt rmX5_allowsAt (va_Pc [.ref (q 1), .int x1, .int x2] (roP G (CW G q C))) (vp_Si (fun v => v = r)) 0 0 (fun _ => False) := by
  refine Met.ofW (cc := cX5_allowsAt) (maxL := 6) (ret := (some .boolean)) (by decide) rfl ?_
  intro p e s m args below meth c s₁ B hml hv
  obtain ⟨rfl, hP, hK⟩ := hv
  have bx := bx_of B hml
  obtain ⟨hx, hb, hr, hts, hown, hml, hlocks⟩ := id bx
  have hl := lv_entry ([.ref (q 1), .int x1, .int x2]) (n := 6) (Nat.le_of_ble_eq_true rfl)
  rw [lg_entry_eq]
  generalize (lg_sl ([.ref (q 1), .int x1, .int x2]) ++ List.replicate (6 - (lg_sl ([.ref (q 1), .int x1, .int x2])).length) Slot.unset).toArray = ls at hl ⊢
  have hl : lv_has ls 6 [(0, .ref (q 1)), (1, .int x1), (2, .int x2)] := hl
  show GoI p l e rmX5_allowsAt s m _ below meth c r (F0 m 0 ls [])
  unfold pX5_allowsAt at h
  refine lv_aload_n hx hb dX5_allowsAt_0 rfl (lv_at hl 0 rfl) ?_
  refine va_get (D := G.1) (ci := 4) (v := .ref (q 6)) (C := RX5) (T := TX5) (N := 6) hx hb hts in_wsX5_allowsAt_X5 hown hK.1 hP 1 rfl rfl 0 (by decide) (w_mem hts 1 rfl) (fun _ h9 => h9) rfl dX5_allowsAt_1 ?_
  refine lv_iload_n hx hb dX5_allowsAt_4 rfl (lv_at hl 1 rfl) ?_
  obtain ⟨g5, h⟩ := gd_ex h
  refine va_iald (D := G.1) hx hb hK.1 hP 6 0 rfl rfl g5 dX5_allowsAt_5 ?_
  refine lv_topi (fun v_1 ev_1 => ?_)
  have h := ltv_at h v_1 ev_1
  refine lv_istore_n (lv' := [(3, .int v_1), (0, .ref (q 1)), (1, .int x1), (2, .int x2)]) hx hb dX5_allowsAt_6 rfl hl (by decide) rfl (fun ls hl => ?_)
  refine lv_iload_n hx hb dX5_allowsAt_7 rfl (lv_at hl 0 rfl) ?_
  refine lv_if_lt (tgt := 21) hx hb dX5_allowsAt_8 (by decide) (fun c_8 => ?_) (fun c_8 => ?_)
  · have h := br_T h c_8
    exact wX5_allowsAt_21 bx hP hK x1 x2 h _ (lv_sub hl [1, 2, 3] rfl)
  · have h := br_F h c_8
    refine lv_iload_n hx hb dX5_allowsAt_11 rfl (lv_at hl 3 rfl) ?_
    refine lv_iload_n hx hb dX5_allowsAt_12 rfl (lv_at hl 0 rfl) ?_
    obtain ⟨r_4, hr_4, h⟩ := bd_ex h
    refine ro_i (va_runSN (As := [.int x2, .int v_1]) (rest := []) ⟨hx, hb, hml, hown, hts⟩ (kX6_has l G q C x2 v_1 r_4 hr_4) ⟨va_cnB 2 hts gX5_allowsAt_X6_has_n28 rfl rfl rfl (hK.2.nw 22 rfl) (w_mem hts 7 rfl) (by decide +kernel) ⟨Nat.le_of_ble_eq_true rfl, Nat.le_of_ble_eq_true rfl⟩, (w_mem hts 6 rfl), trivial⟩ (roS hP hK) rfl rfl hl.1 rfl (lv_room (Nat.le_of_ble_eq_true rfl)) dX5_allowsAt_13 ⟨Nat.zero_le _, Nat.zero_le _⟩) ?_
    refine lv_if_ne (tgt := 21) hx hb dX5_allowsAt_16 (by decide) (fun c_16 => ?_) (fun c_16 => ?_)
    · have h := br_F h c_16
      exact wX5_allowsAt_21 bx hP hK x1 x2 h _ (lv_sub hl [1, 2, 3] rfl)
    · have h := br_T h c_16
      refine lv_iconst (v := 0) hx hb dX5_allowsAt_19 (by decide) ?_
      exact GoI.end hx hb hr hlocks dX5_allowsAt_20 rfl h

def rmX5_allows : Room := { frames := 2, cells := 0, slots := 0, locals := 46 }

theorem in_wsX5_allows_X5 : ∀ w ∈ u_ws RX5 TX5 6, w ∈ wsX5_allows := by decide +kernel

set_option maxHeartbeats 4000000 in
set_option maxRecDepth 100000 in
theorem wX5_allows_39 {p : Program} {l : Launch} {e : Env} {s : State} {m : MethodId} {args : Array Value} {below : List Frame} {meth : Method} {c : Code} {G : GT} {q : Nat → Nat} {C : St} {out : Int32} (bx : BX p RX5 wsX5_allows cX5_allows 3 (some .boolean) s m args meth c) (hP : va_P G.1 vwCl (CW G q C) s.heap) (hK : CK G s) {k12 : St → Int32 → Int32 → Option (Int32)} (hk12 : ∀ (x1 : Int32) (x2 : Int32), k12 C x1 x2 = some out → ∀ (ls : Array Slot), lv_has ls 3 [(0, .ref (q 1)), (1, .int x1), (2, .int x2)] → GoI p l e rmX5_allows s m args below meth c out (F0 m 12 ls [])) (x1 : Int32) (x2 : Int32) (h : pX5_allows_39 k12 C x1 x2 = some out) (ls : Array Slot) (hl : lv_has ls 3 [(0, .ref (q 1)), (1, .int x1), (2, .int x2)]) : GoI p l e rmX5_allows s m args below meth c out (F0 m 39 ls []) := by
  obtain ⟨hx, hb, hr, hts, hown, hml, hlocks⟩ := id bx
  unfold pX5_allows_39 at h
  obtain ⟨v_3, ev_3, h⟩ := ltv_ex h
  refine lv_iinc (v := v_3) (lv' := [(2, .int v_3), (0, .ref (q 1)), (1, .int x1)]) hx hb dX5_allows_39 hl (k := 2) rfl (by rw [ev_3]; rfl) (by decide) rfl (fun ls hl => ?_)
  refine lv_goto (tgt := 12) hx hb dX5_allows_42 (by decide) ?_
  exact hk12 x1 v_3 h _ (lv_sub hl [1, 2, 0] rfl)

set_option maxHeartbeats 4000000 in
set_option maxRecDepth 100000 in
theorem wX5_allows_12_b {p : Program} {l : Launch} {e : Env} {s : State} {m : MethodId} {args : Array Value} {below : List Frame} {meth : Method} {c : Code} {G : GT} {q : Nat → Nat} {C : St} {out : Int32} (bx : BX p RX5 wsX5_allows cX5_allows 3 (some .boolean) s m args meth c) (hP : va_P G.1 vwCl (CW G q C) s.heap) (hK : CK G s) {k12 : St → Int32 → Int32 → Option (Int32)} (hk12 : ∀ (x1 : Int32) (x2 : Int32), k12 C x1 x2 = some out → ∀ (ls : Array Slot), lv_has ls 3 [(0, .ref (q 1)), (1, .int x1), (2, .int x2)] → GoI p l e rmX5_allows s m args below meth c out (F0 m 12 ls [])) (x1 : Int32) (x2 : Int32) (h : pX5_allows_12_b k12 C x1 x2 = some out) (ls : Array Slot) (hl : lv_has ls 3 [(0, .ref (q 1)), (1, .int x1), (2, .int x2)]) : GoI p l e rmX5_allows s m args below meth c out (F0 m 12 ls []) := by
  obtain ⟨hx, hb, hr, hts, hown, hml, hlocks⟩ := id bx
  unfold pX5_allows_12_b at h
  refine lv_iload_n hx hb dX5_allows_12 rfl (lv_at hl 2 rfl) ?_
  refine lv_aload_n hx hb dX5_allows_13 rfl (lv_at hl 0 rfl) ?_
  refine va_get (D := G.1) (ci := 4) (v := .int (C.1 3)) (C := RX5) (T := TX5) (N := 6) hx hb hts in_wsX5_allows_X5 hown hK.1 hP 1 rfl rfl 5 (by decide) (w_mem hts 1 rfl) (fun _ h9 => h9) rfl dX5_allows_14 ?_
  refine lv_icmp_ge (tgt := 45) hx hb dX5_allows_17 (by decide) (fun c_17 => ?_) (fun c_17 => ?_)
  · have h := br_T h c_17
    refine lv_iconst (v := 1) hx hb dX5_allows_45 (by decide) ?_
    exact GoI.end hx hb hr hlocks dX5_allows_46 rfl h
  · have h := br_F h c_17
    refine lv_iload_n hx hb dX5_allows_20 rfl (lv_at hl 1 rfl) ?_
    refine lv_iload_n hx hb dX5_allows_21 rfl (lv_at hl 2 rfl) ?_
    obtain ⟨r_2, hr_2, h⟩ := bd_ex h
    refine ro_i (va_runSN (As := [.int x1, .int x2]) (rest := []) ⟨hx, hb, hml, hown, hts⟩ (kX6_has l G q C x1 x2 r_2 hr_2) ⟨va_cnB 2 hts gX5_allows_X6_has_n28 rfl rfl rfl (hK.2.nw 22 rfl) (w_mem hts 3 rfl) (by decide +kernel) ⟨Nat.le_of_ble_eq_true rfl, Nat.le_of_ble_eq_true rfl⟩, (w_mem hts 2 rfl), trivial⟩ (roS hP hK) rfl rfl hl.1 rfl (lv_room (Nat.le_of_ble_eq_true rfl)) dX5_allows_22 ⟨Nat.zero_le _, Nat.zero_le _⟩) ?_
    refine lv_if_eq (tgt := 39) hx hb dX5_allows_25 (by decide) (fun c_25 => ?_) (fun c_25 => ?_)
    · have h := br_T h c_25
      exact wX5_allows_39 bx hP hK hk12 x1 x2 h _ (lv_sub hl [0, 1, 2] rfl)
    · have h := br_F h c_25
      refine lv_aload_n hx hb dX5_allows_28 rfl (lv_at hl 0 rfl) ?_
      refine lv_iload_n hx hb dX5_allows_29 rfl (lv_at hl 2 rfl) ?_
      refine lv_iload_n hx hb dX5_allows_30 rfl (lv_at hl 1 rfl) ?_
      obtain ⟨r_4, hr_4, h⟩ := bd_ex h
      refine ro_i (va_runV (As := [.int x2, .int x1]) (rest := []) ⟨hx, hb, hml, hown, hts⟩ (kX5_allowsAt l G q C x2 x1 r_4 hr_4) (cwV 2 hts gX5_allows_X5_allowsAt rfl rfl rfl (by decide +kernel) ⟨Nat.le_of_ble_eq_true rfl, Nat.le_of_ble_eq_true rfl⟩) (roV hP hK 4 1 rfl rfl) rfl rfl hl.1 rfl (lv_room (Nat.le_of_ble_eq_true rfl)) dX5_allows_31 ⟨Nat.zero_le _, Nat.zero_le _⟩) ?_
      refine lv_if_ne (tgt := 39) hx hb dX5_allows_34 (by decide) (fun c_34 => ?_) (fun c_34 => ?_)
      · have h := br_F h c_34
        exact wX5_allows_39 bx hP hK hk12 x1 x2 h _ (lv_sub hl [0, 1, 2] rfl)
      · have h := br_T h c_34
        refine lv_iconst (v := 0) hx hb dX5_allows_37 (by decide) ?_
        exact GoI.end hx hb hr hlocks dX5_allows_38 rfl h

theorem wX5_allows_12 {p : Program} {l : Launch} {e : Env} {s : State} {m : MethodId} {args : Array Value} {below : List Frame} {meth : Method} {c : Code} {G : GT} {q : Nat → Nat} {C : St} {out : Int32} (bx : BX p RX5 wsX5_allows cX5_allows 3 (some .boolean) s m args meth c) (hP : va_P G.1 vwCl (CW G q C) s.heap) (hK : CK G s) :
    ∀ (n : Nat) (x1 : Int32) (x2 : Int32), pX5_allows_12 n C x1 x2 = some out → ∀ (ls : Array Slot), lv_has ls 3 [(0, .ref (q 1)), (1, .int x1), (2, .int x2)] → GoI p l e rmX5_allows s m args below meth c out (F0 m 12 ls []) := by
  intro n
  induction n with
  | zero => intro _ _ h; cases h
  | succ n ih => exact fun a0 a1 h ls hl => wX5_allows_12_b bx hP hK ih a0 a1 h ls hl

set_option maxHeartbeats 4000000 in
set_option maxRecDepth 100000 in
theorem kX5_allows (l : Launch) (G : GT) (q : Nat → Nat) (C : St) (x1 : Int32) (r : Int32) (h : pX5_allows C x1 = some r) : Met l yX5_allows wsX5_allows rmX5_allows (va_Pc [.ref (q 1), .int x1] (roP G (CW G q C))) (vp_Si (fun v => v = r)) 0 0 (fun _ => False) := by
  refine Met.ofW (cc := cX5_allows) (maxL := 3) (ret := (some .boolean)) (by decide) rfl ?_
  intro p e s m args below meth c s₁ B hml hv
  obtain ⟨rfl, hP, hK⟩ := hv
  have bx := bx_of B hml
  obtain ⟨hx, hb, hr, hts, hown, hml, hlocks⟩ := id bx
  have hl := lv_entry ([.ref (q 1), .int x1]) (n := 3) (Nat.le_of_ble_eq_true rfl)
  rw [lg_entry_eq]
  generalize (lg_sl ([.ref (q 1), .int x1]) ++ List.replicate (3 - (lg_sl ([.ref (q 1), .int x1])).length) Slot.unset).toArray = ls at hl ⊢
  have hl : lv_has ls 3 [(0, .ref (q 1)), (1, .int x1)] := hl
  show GoI p l e rmX5_allows s m _ below meth c r (F0 m 0 ls [])
  unfold pX5_allows at h
  refine lv_iload_n hx hb dX5_allows_0 rfl (lv_at hl 1 rfl) ?_
  refine lv_iconst (v := 0) hx hb dX5_allows_1 (by decide) ?_
  obtain ⟨r_1, hr_1, h⟩ := bd_ex h
  refine ro_i (va_runSN (As := [.int x1, .int 0]) (rest := []) ⟨hx, hb, hml, hown, hts⟩ (kX6_has l G q C x1 0 r_1 hr_1) ⟨va_cnB 2 hts gX5_allows_X6_has_n28 rfl rfl rfl (hK.2.nw 22 rfl) (w_mem hts 3 rfl) (by decide +kernel) ⟨Nat.le_of_ble_eq_true rfl, Nat.le_of_ble_eq_true rfl⟩, (w_mem hts 2 rfl), trivial⟩ (roS hP hK) rfl rfl hl.1 rfl (lv_room (Nat.le_of_ble_eq_true rfl)) dX5_allows_2 ⟨Nat.zero_le _, Nat.zero_le _⟩) ?_
  refine lv_if_ne (tgt := 10) hx hb dX5_allows_5 (by decide) (fun c_5 => ?_) (fun c_5 => ?_)
  · have h := br_F h c_5
    refine lv_iconst (v := 0) hx hb dX5_allows_10 (by decide) ?_
    refine lv_istore_n (lv' := [(2, .int 0), (0, .ref (q 1)), (1, .int x1)]) hx hb dX5_allows_11 rfl hl (by decide) rfl (fun ls hl => ?_)
    exact wX5_allows_12 bx hP hK FU x1 0 h _ (lv_sub hl [1, 2, 0] rfl)
  · have h := br_T h c_5
    refine lv_iconst (v := 0) hx hb dX5_allows_8 (by decide) ?_
    exact GoI.end hx hb hr hlocks dX5_allows_9 rfl h

def rmX5_mayBeIn : Room := { frames := 1, cells := 0, slots := 0, locals := 21 }

theorem in_wsX5_mayBeIn_X5 : ∀ w ∈ u_ws RX5 TX5 6, w ∈ wsX5_mayBeIn := by decide +kernel

set_option maxHeartbeats 4000000 in
set_option maxRecDepth 100000 in
theorem kX5_mayBeIn (l : Launch) (G : GT) (q : Nat → Nat) (C : St) (x1 : Int32) (x2 : Int32) (r : Int32) (h : pX5_mayBeIn C x1 x2 = some r) : Met l yX5_mayBeIn wsX5_mayBeIn rmX5_mayBeIn (va_Pc [.ref (q 1), .int x1, .int x2] (roP G (CW G q C))) (vp_Si (fun v => v = r)) 0 0 (fun _ => False) := by
  refine Met.ofW (cc := cX5_mayBeIn) (maxL := 4) (ret := (some .boolean)) (by decide) rfl ?_
  intro p e s m args below meth c s₁ B hml hv
  obtain ⟨rfl, hP, hK⟩ := hv
  have bx := bx_of B hml
  obtain ⟨hx, hb, hr, hts, hown, hml, hlocks⟩ := id bx
  have hl := lv_entry ([.ref (q 1), .int x1, .int x2]) (n := 4) (Nat.le_of_ble_eq_true rfl)
  rw [lg_entry_eq]
  generalize (lg_sl ([.ref (q 1), .int x1, .int x2]) ++ List.replicate (4 - (lg_sl ([.ref (q 1), .int x1, .int x2])).length) Slot.unset).toArray = ls at hl ⊢
  have hl : lv_has ls 4 [(0, .ref (q 1)), (1, .int x1), (2, .int x2)] := hl
  show GoI p l e rmX5_mayBeIn s m _ below meth c r (F0 m 0 ls [])
  unfold pX5_mayBeIn at h
  refine lv_aload_n hx hb dX5_mayBeIn_0 rfl (lv_at hl 0 rfl) ?_
  refine va_get (D := G.1) (ci := 4) (v := .ref (q 7)) (C := RX5) (T := TX5) (N := 6) hx hb hts in_wsX5_mayBeIn_X5 hown hK.1 hP 1 rfl rfl 1 (by decide) (w_mem hts 1 rfl) (fun _ h9 => h9) rfl dX5_mayBeIn_1 ?_
  refine lv_iload_n hx hb dX5_mayBeIn_4 rfl (lv_at hl 1 rfl) ?_
  obtain ⟨g5, h⟩ := gd_ex h
  refine va_iald (D := G.1) hx hb hK.1 hP 7 0 rfl rfl g5 dX5_mayBeIn_5 ?_
  obtain ⟨r_1, hr_1, h⟩ := bd_ex h
  refine ro_i (va_runS (As := [.int (C.2 1 x1.toNatClampNeg)]) (rest := []) ⟨hx, hb, hml, hown, hts⟩ (kJ6_bitCount_0f7a4 l (C.2 1 x1.toNatClampNeg) r_1 hr_1) (va_cwS 1 hts gX5_mayBeIn_J6_bitCount_0f7a4 rfl rfl rfl (by decide +kernel) ⟨Nat.le_of_ble_eq_true rfl, Nat.le_of_ble_eq_true rfl⟩) noS rfl rfl hl.1 rfl (lv_room (Nat.le_of_ble_eq_true rfl)) dX5_mayBeIn_6 ⟨Nat.zero_le _, Nat.zero_le _⟩) ?_
  refine lv_aload_n hx hb dX5_mayBeIn_9 rfl (lv_at hl 0 rfl) ?_
  refine va_get (D := G.1) (ci := 4) (v := .ref (q 8)) (C := RX5) (T := TX5) (N := 6) hx hb hts in_wsX5_mayBeIn_X5 hown hK.1 hP 1 rfl rfl 2 (by decide) (w_mem hts 2 rfl) (fun _ h9 => h9) rfl dX5_mayBeIn_10 ?_
  refine lv_iload_n hx hb dX5_mayBeIn_13 rfl (lv_at hl 1 rfl) ?_
  obtain ⟨g14, h⟩ := gd_ex h
  refine va_iald (D := G.1) hx hb hK.1 hP 8 0 rfl rfl g14 dX5_mayBeIn_14 ?_
  refine lv_icmp_ge (tgt := 20) hx hb dX5_mayBeIn_15 (by decide) (fun c_15 => ?_) (fun c_15 => ?_)
  · have h := br_T h c_15
    refine lv_aload_n hx hb dX5_mayBeIn_20 rfl (lv_at hl 0 rfl) ?_
    refine va_get (D := G.1) (ci := 4) (v := .ref (q 6)) (C := RX5) (T := TX5) (N := 6) hx hb hts in_wsX5_mayBeIn_X5 hown hK.1 hP 1 rfl rfl 0 (by decide) (w_mem hts 3 rfl) (fun _ h9 => h9) rfl dX5_mayBeIn_21 ?_
    refine lv_iload_n hx hb dX5_mayBeIn_24 rfl (lv_at hl 1 rfl) ?_
    obtain ⟨g25, h⟩ := gd_ex h
    refine va_iald (D := G.1) hx hb hK.1 hP 6 0 rfl rfl g25 dX5_mayBeIn_25 ?_
    refine lv_topi (fun v_2 ev_2 => ?_)
    have h := ltv_at h v_2 ev_2
    refine lv_istore_n (lv' := [(3, .int v_2), (0, .ref (q 1)), (1, .int x1), (2, .int x2)]) hx hb dX5_mayBeIn_26 rfl hl (by decide) rfl (fun ls hl => ?_)
    refine lv_iload_n hx hb dX5_mayBeIn_27 rfl (lv_at hl 0 rfl) ?_
    refine lv_if_lt (tgt := 59) hx hb dX5_mayBeIn_28 (by decide) (fun c_28 => ?_) (fun c_28 => ?_)
    · have h := br_T h c_28
      refine lv_iconst (v := 1) hx hb dX5_mayBeIn_59 (by decide) ?_
      refine lv_goto (tgt := 64) hx hb dX5_mayBeIn_60 (by decide) ?_
      exact GoI.end hx hb hr hlocks dX5_mayBeIn_64 rfl h
    · have h := br_F h c_28
      refine lv_iload_n hx hb dX5_mayBeIn_31 rfl (lv_at hl 3 rfl) ?_
      refine lv_iload_n hx hb dX5_mayBeIn_32 rfl (lv_at hl 0 rfl) ?_
      obtain ⟨r_3, hr_3, h⟩ := bd_ex h
      refine ro_i (va_runSN (As := [.int x2, .int v_2]) (rest := []) ⟨hx, hb, hml, hown, hts⟩ (kX6_has l G q C x2 v_2 r_3 hr_3) ⟨va_cnB 2 hts gX5_mayBeIn_X6_has_n28 rfl rfl rfl (hK.2.nw 22 rfl) (w_mem hts 13 rfl) (by decide +kernel) ⟨Nat.le_of_ble_eq_true rfl, Nat.le_of_ble_eq_true rfl⟩, (w_mem hts 12 rfl), trivial⟩ (roS hP hK) rfl rfl hl.1 rfl (lv_room (Nat.le_of_ble_eq_true rfl)) dX5_mayBeIn_33 ⟨Nat.zero_le _, Nat.zero_le _⟩) ?_
      refine lv_if_eq (tgt := 63) hx hb dX5_mayBeIn_36 (by decide) (fun c_36 => ?_) (fun c_36 => ?_)
      · have h := br_T h c_36
        refine lv_iconst (v := 0) hx hb dX5_mayBeIn_63 (by decide) ?_
        exact GoI.end hx hb hr hlocks dX5_mayBeIn_64 rfl h
      · have h := br_F h c_36
        refine lv_aload_n hx hb dX5_mayBeIn_39 rfl (lv_at hl 1 rfl) ?_
        refine va_get (D := G.1) (ci := 4) (v := .ref (q 7)) (C := RX5) (T := TX5) (N := 6) hx hb hts in_wsX5_mayBeIn_X5 hown hK.1 hP 1 rfl rfl 1 (by decide) (w_mem hts 1 rfl) (fun _ h9 => h9) rfl dX5_mayBeIn_40 ?_
        refine lv_iload_n hx hb dX5_mayBeIn_43 rfl (lv_at hl 0 rfl) ?_
        obtain ⟨g44, h⟩ := gd_ex h
        refine va_iald (D := G.1) hx hb hK.1 hP 7 0 rfl rfl g44 dX5_mayBeIn_44 ?_
        refine lv_iload_n hx hb dX5_mayBeIn_45 rfl (lv_at hl 3 rfl) ?_
        refine lv_iand hx hb dX5_mayBeIn_46 ?_
        obtain ⟨r_4, hr_4, h⟩ := bd_ex h
        refine ro_i (va_runS (As := [.int ((C.2 1 v_2.toNatClampNeg) &&& x2)]) (rest := []) ⟨hx, hb, hml, hown, hts⟩ (kJ6_bitCount_0f7a4 l ((C.2 1 v_2.toNatClampNeg) &&& x2) r_4 hr_4) (va_cwS 1 hts gX5_mayBeIn_J6_bitCount_0f7a4 rfl rfl rfl (by decide +kernel) ⟨Nat.le_of_ble_eq_true rfl, Nat.le_of_ble_eq_true rfl⟩) noS rfl rfl hl.1 rfl (lv_room (Nat.le_of_ble_eq_true rfl)) dX5_mayBeIn_47 ⟨Nat.zero_le _, Nat.zero_le _⟩) ?_
        refine lv_aload_n hx hb dX5_mayBeIn_50 rfl (lv_at hl 1 rfl) ?_
        refine va_get (D := G.1) (ci := 4) (v := .ref (q 9)) (C := RX5) (T := TX5) (N := 6) hx hb hts in_wsX5_mayBeIn_X5 hown hK.1 hP 1 rfl rfl 3 (by decide) (w_mem hts 4 rfl) (fun _ h9 => h9) rfl dX5_mayBeIn_51 ?_
        refine lv_iload_n hx hb dX5_mayBeIn_54 rfl (lv_at hl 0 rfl) ?_
        obtain ⟨g55, h⟩ := gd_ex h
        refine va_iald (D := G.1) hx hb hK.1 hP 9 0 rfl rfl g55 dX5_mayBeIn_55 ?_
        refine lv_icmp_ge (tgt := 63) hx hb dX5_mayBeIn_56 (by decide) (fun c_56 => ?_) (fun c_56 => ?_)
        · have h := br_T h c_56
          refine lv_iconst (v := 0) hx hb dX5_mayBeIn_63 (by decide) ?_
          exact GoI.end hx hb hr hlocks dX5_mayBeIn_64 rfl h
        · have h := br_F h c_56
          refine lv_iconst (v := 1) hx hb dX5_mayBeIn_59 (by decide) ?_
          refine lv_goto (tgt := 64) hx hb dX5_mayBeIn_60 (by decide) ?_
          exact GoI.end hx hb hr hlocks dX5_mayBeIn_64 rfl h
  · have h := br_F h c_15
    refine lv_iconst (v := 0) hx hb dX5_mayBeIn_18 (by decide) ?_
    exact GoI.end hx hb hr hlocks dX5_mayBeIn_19 rfl h

def rmX5_mayBeOut : Room := { frames := 1, cells := 0, slots := 0, locals := 21 }

theorem in_wsX5_mayBeOut_X5 : ∀ w ∈ u_ws RX5 TX5 6, w ∈ wsX5_mayBeOut := by decide +kernel

set_option maxHeartbeats 4000000 in
set_option maxRecDepth 100000 in
theorem kX5_mayBeOut (l : Launch) (G : GT) (q : Nat → Nat) (C : St) (x1 : Int32) (x2 : Int32) (r : Int32) (h : pX5_mayBeOut C x1 x2 = some r) : Met l yX5_mayBeOut wsX5_mayBeOut rmX5_mayBeOut (va_Pc [.ref (q 1), .int x1, .int x2] (roP G (CW G q C))) (vp_Si (fun v => v = r)) 0 0 (fun _ => False) := by
  refine Met.ofW (cc := cX5_mayBeOut) (maxL := 6) (ret := (some .boolean)) (by decide) rfl ?_
  intro p e s m args below meth c s₁ B hml hv
  obtain ⟨rfl, hP, hK⟩ := hv
  have bx := bx_of B hml
  obtain ⟨hx, hb, hr, hts, hown, hml, hlocks⟩ := id bx
  have hl := lv_entry ([.ref (q 1), .int x1, .int x2]) (n := 6) (Nat.le_of_ble_eq_true rfl)
  rw [lg_entry_eq]
  generalize (lg_sl ([.ref (q 1), .int x1, .int x2]) ++ List.replicate (6 - (lg_sl ([.ref (q 1), .int x1, .int x2])).length) Slot.unset).toArray = ls at hl ⊢
  have hl : lv_has ls 6 [(0, .ref (q 1)), (1, .int x1), (2, .int x2)] := hl
  show GoI p l e rmX5_mayBeOut s m _ below meth c r (F0 m 0 ls [])
  unfold pX5_mayBeOut at h
  refine lv_aload_n hx hb dX5_mayBeOut_0 rfl (lv_at hl 0 rfl) ?_
  refine va_get (D := G.1) (ci := 4) (v := .ref (q 6)) (C := RX5) (T := TX5) (N := 6) hx hb hts in_wsX5_mayBeOut_X5 hown hK.1 hP 1 rfl rfl 0 (by decide) (w_mem hts 1 rfl) (fun _ h9 => h9) rfl dX5_mayBeOut_1 ?_
  refine lv_iload_n hx hb dX5_mayBeOut_4 rfl (lv_at hl 1 rfl) ?_
  obtain ⟨g5, h⟩ := gd_ex h
  refine va_iald (D := G.1) hx hb hK.1 hP 6 0 rfl rfl g5 dX5_mayBeOut_5 ?_
  refine lv_topi (fun v_1 ev_1 => ?_)
  have h := ltv_at h v_1 ev_1
  refine lv_istore_n (lv' := [(3, .int v_1), (0, .ref (q 1)), (1, .int x1), (2, .int x2)]) hx hb dX5_mayBeOut_6 rfl hl (by decide) rfl (fun ls hl => ?_)
  refine lv_iload_n hx hb dX5_mayBeOut_7 rfl (lv_at hl 0 rfl) ?_
  refine lv_if_ge (tgt := 13) hx hb dX5_mayBeOut_8 (by decide) (fun c_8 => ?_) (fun c_8 => ?_)
  · have h := br_T h c_8
    refine lv_iload_n hx hb dX5_mayBeOut_13 rfl (lv_at hl 3 rfl) ?_
    refine lv_iload_n hx hb dX5_mayBeOut_14 rfl (lv_at hl 0 rfl) ?_
    obtain ⟨r_2, hr_2, h⟩ := bd_ex h
    refine ro_i (va_runSN (As := [.int x2, .int v_1]) (rest := []) ⟨hx, hb, hml, hown, hts⟩ (kX6_has l G q C x2 v_1 r_2 hr_2) ⟨va_cnB 2 hts gX5_mayBeOut_X6_has_n28 rfl rfl rfl (hK.2.nw 22 rfl) (w_mem hts 6 rfl) (by decide +kernel) ⟨Nat.le_of_ble_eq_true rfl, Nat.le_of_ble_eq_true rfl⟩, (w_mem hts 5 rfl), trivial⟩ (roS hP hK) rfl rfl hl.1 rfl (lv_room (Nat.le_of_ble_eq_true rfl)) dX5_mayBeOut_15 ⟨Nat.zero_le _, Nat.zero_le _⟩) ?_
    refine lv_if_ne (tgt := 23) hx hb dX5_mayBeOut_18 (by decide) (fun c_18 => ?_) (fun c_18 => ?_)
    · have h := br_F h c_18
      refine lv_aload_n hx hb dX5_mayBeOut_23 rfl (lv_at hl 1 rfl) ?_
      refine va_get (D := G.1) (ci := 4) (v := .ref (q 7)) (C := RX5) (T := TX5) (N := 6) hx hb hts in_wsX5_mayBeOut_X5 hown hK.1 hP 1 rfl rfl 1 (by decide) (w_mem hts 2 rfl) (fun _ h9 => h9) rfl dX5_mayBeOut_24 ?_
      refine lv_iload_n hx hb dX5_mayBeOut_27 rfl (lv_at hl 0 rfl) ?_
      obtain ⟨g28, h⟩ := gd_ex h
      refine va_iald (D := G.1) hx hb hK.1 hP 7 0 rfl rfl g28 dX5_mayBeOut_28 ?_
      refine lv_iload_n hx hb dX5_mayBeOut_29 rfl (lv_at hl 3 rfl) ?_
      refine lv_iand hx hb dX5_mayBeOut_30 ?_
      obtain ⟨r_3, hr_3, h⟩ := bd_ex h
      refine ro_i (va_runS (As := [.int ((C.2 1 v_1.toNatClampNeg) &&& x2)]) (rest := []) ⟨hx, hb, hml, hown, hts⟩ (kJ6_bitCount_0f7a4 l ((C.2 1 v_1.toNatClampNeg) &&& x2) r_3 hr_3) (va_cwS 1 hts gX5_mayBeOut_J6_bitCount_0f7a4 rfl rfl rfl (by decide +kernel) ⟨Nat.le_of_ble_eq_true rfl, Nat.le_of_ble_eq_true rfl⟩) noS rfl rfl hl.1 rfl (lv_room (Nat.le_of_ble_eq_true rfl)) dX5_mayBeOut_31 ⟨Nat.zero_le _, Nat.zero_le _⟩) ?_
      refine lv_istore (lv' := [(4, .int r_3), (3, .int v_1), (0, .ref (q 1)), (1, .int x1), (2, .int x2)]) hx hb dX5_mayBeOut_34 hl (by decide) rfl (fun ls hl => ?_)
      refine lv_aload_n hx hb dX5_mayBeOut_36 rfl (lv_at hl 2 rfl) ?_
      refine va_get (D := G.1) (ci := 4) (v := .ref (q 7)) (C := RX5) (T := TX5) (N := 6) hx hb hts in_wsX5_mayBeOut_X5 hown hK.1 hP 1 rfl rfl 1 (by decide) (w_mem hts 2 rfl) (fun _ h9 => h9) rfl dX5_mayBeOut_37 ?_
      refine lv_iload_n hx hb dX5_mayBeOut_40 rfl (lv_at hl 1 rfl) ?_
      obtain ⟨g41, h⟩ := gd_ex h
      refine va_iald (D := G.1) hx hb hK.1 hP 7 0 rfl rfl g41 dX5_mayBeOut_41 ?_
      refine lv_iload_n hx hb dX5_mayBeOut_42 rfl (lv_at hl 3 rfl) ?_
      refine lv_iconst (v := 1) hx hb dX5_mayBeOut_43 (by decide) ?_
      refine lv_iadd hx hb dX5_mayBeOut_44 ?_
      refine lv_ishr hx hb dX5_mayBeOut_45 ?_
      obtain ⟨r_4, hr_4, h⟩ := bd_ex h
      refine ro_i (va_runS (As := [.int ((C.2 1 v_1.toNatClampNeg) >>> ((x1 + 1) &&& 31))]) (rest := []) ⟨hx, hb, hml, hown, hts⟩ (kJ6_bitCount_0f7a4 l ((C.2 1 v_1.toNatClampNeg) >>> ((x1 + 1) &&& 31)) r_4 hr_4) (va_cwS 1 hts gX5_mayBeOut_J6_bitCount_0f7a4 rfl rfl rfl (by decide +kernel) ⟨Nat.le_of_ble_eq_true rfl, Nat.le_of_ble_eq_true rfl⟩) noS rfl rfl hl.1 rfl (lv_room (Nat.le_of_ble_eq_true rfl)) dX5_mayBeOut_46 ⟨Nat.zero_le _, Nat.zero_le _⟩) ?_
      refine lv_istore (lv' := [(5, .int r_4), (4, .int r_3), (3, .int v_1), (0, .ref (q 1)), (1, .int x1), (2, .int x2)]) hx hb dX5_mayBeOut_49 hl (by decide) rfl (fun ls hl => ?_)
      refine lv_aload_n hx hb dX5_mayBeOut_51 rfl (lv_at hl 3 rfl) ?_
      refine va_get (D := G.1) (ci := 4) (v := .int (C.1 2)) (C := RX5) (T := TX5) (N := 6) hx hb hts in_wsX5_mayBeOut_X5 hown hK.1 hP 1 rfl rfl 4 (by decide) (w_mem hts 3 rfl) (fun _ h9 => h9) rfl dX5_mayBeOut_52 ?_
      refine lv_iload_n hx hb dX5_mayBeOut_55 rfl (lv_at hl 4 rfl) ?_
      obtain ⟨r_5, hr_5, h⟩ := bd_ex h
      refine ro_i (va_runSN (As := [.int (C.1 2), .int x1]) (rest := []) ⟨hx, hb, hml, hown, hts⟩ (kX6_has l G q C (C.1 2) x1 r_5 hr_5) ⟨va_cnB 2 hts gX5_mayBeOut_X6_has_n28 rfl rfl rfl (hK.2.nw 22 rfl) (w_mem hts 6 rfl) (by decide +kernel) ⟨Nat.le_of_ble_eq_true rfl, Nat.le_of_ble_eq_true rfl⟩, (w_mem hts 5 rfl), trivial⟩ (roS hP hK) rfl rfl hl.1 rfl (lv_room (Nat.le_of_ble_eq_true rfl)) dX5_mayBeOut_56 ⟨Nat.zero_le _, Nat.zero_le _⟩) ?_
      refine lv_if_ne (tgt := 80) hx hb dX5_mayBeOut_59 (by decide) (fun c_59 => ?_) (fun c_59 => ?_)
      · have h := br_F h c_59
        refine lv_iconst (v := 0) hx hb dX5_mayBeOut_80 (by decide) ?_
        exact GoI.end hx hb hr hlocks dX5_mayBeOut_81 rfl h
      · have h := br_T h c_59
        refine lv_iload hx hb dX5_mayBeOut_62 (lv_at hl 1 rfl) ?_
        refine lv_iload hx hb dX5_mayBeOut_64 (lv_at hl 0 rfl) ?_
        refine lv_iadd hx hb dX5_mayBeOut_66 ?_
        refine lv_aload_n hx hb dX5_mayBeOut_67 rfl (lv_at hl 3 rfl) ?_
        refine va_get (D := G.1) (ci := 4) (v := .ref (q 8)) (C := RX5) (T := TX5) (N := 6) hx hb hts in_wsX5_mayBeOut_X5 hown hK.1 hP 1 rfl rfl 2 (by decide) (w_mem hts 4 rfl) (fun _ h9 => h9) rfl dX5_mayBeOut_68 ?_
        refine lv_iload_n hx hb dX5_mayBeOut_71 rfl (lv_at hl 2 rfl) ?_
        obtain ⟨g72, h⟩ := gd_ex h
        refine va_iald (D := G.1) hx hb hK.1 hP 8 0 rfl rfl g72 dX5_mayBeOut_72 ?_
        refine lv_icmp_lt (tgt := 80) hx hb dX5_mayBeOut_73 (by decide) (fun c_73 => ?_) (fun c_73 => ?_)
        · have h := br_T h c_73
          refine lv_iconst (v := 0) hx hb dX5_mayBeOut_80 (by decide) ?_
          exact GoI.end hx hb hr hlocks dX5_mayBeOut_81 rfl h
        · have h := br_F h c_73
          refine lv_iconst (v := 1) hx hb dX5_mayBeOut_76 (by decide) ?_
          refine lv_goto (tgt := 81) hx hb dX5_mayBeOut_77 (by decide) ?_
          exact GoI.end hx hb hr hlocks dX5_mayBeOut_81 rfl h
    · have h := br_T h c_18
      refine lv_iconst (v := 1) hx hb dX5_mayBeOut_21 (by decide) ?_
      exact GoI.end hx hb hr hlocks dX5_mayBeOut_22 rfl h
  · have h := br_F h c_8
    refine lv_iconst (v := 0) hx hb dX5_mayBeOut_11 (by decide) ?_
    exact GoI.end hx hb hr hlocks dX5_mayBeOut_12 rfl h
