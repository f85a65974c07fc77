def rmX6_stateLetter : Room := { frames := 1, cells := 0, slots := 0, locals := 21 }

theorem in_wsX6_stateLetter_X6 : ∀ w ∈ u_ws RX6 TX6 7, w ∈ wsX6_stateLetter := by decide +kernel

set_option maxHeartbeats 4000000 in
set_option maxRecDepth 100000 in
theorem kX6_stateLetter (l : Launch) (G : GT) (q : Nat → Nat) (C : St) (x1 : Int32) (x2 : Int32) (x3 : Int32) (r : Int32) (h : pX6_stateLetter C x1 x2 x3 = some r) : Met l yX6_stateLetter wsX6_stateLetter rmX6_stateLetter (va_Pc [.ref (q 0), .int x1, .int x2, .int x3] (roP G (CW G q C))) (vp_Si (fun v => v = r)) 0 0 (fun _ => False) := by
  refine Met.ofW (cc := cX6_stateLetter) (maxL := 4) (ret := (some .char)) (by decide) rfl ?_
  intro p e s m args below meth c s₁ B hml hv
  obtain ⟨rfl, hP, hK⟩ := hv
  have bx := bx_of B hml
  obtain ⟨hx, hb, hr, hts, hown, hml, hlocks⟩ := id bx
  have hl := lv_entry ([.ref (q 0), .int x1, .int x2, .int x3]) (n := 4) (Nat.le_of_ble_eq_true rfl)
  rw [lg_entry_eq]
  generalize (lg_sl ([.ref (q 0), .int x1, .int x2, .int x3]) ++ List.replicate (4 - (lg_sl ([.ref (q 0), .int x1, .int x2, .int x3])).length) Slot.unset).toArray = ls at hl ⊢
  have hl : lv_has ls 4 [(0, .ref (q 0)), (1, .int x1), (2, .int x2), (3, .int x3)] := hl
  show GoI p l e rmX6_stateLetter s m _ below meth c r (F0 m 0 ls [])
  unfold pX6_stateLetter at h
  refine lv_aload_n hx hb dX6_stateLetter_0 rfl (lv_at hl 0 rfl) ?_
  refine va_get (D := G.1) (ci := 5) (v := .int (C.1 0)) (C := RX6) (T := TX6) (N := 7) hx hb hts in_wsX6_stateLetter_X6 hown hK.1 hP 0 rfl rfl 5 (by decide) (w_mem hts 1 rfl) (fun _ h9 => h9) rfl dX6_stateLetter_1 ?_
  refine lv_aload_n hx hb dX6_stateLetter_4 rfl (lv_at hl 0 rfl) ?_
  refine va_get (D := G.1) (ci := 5) (v := .int (C.1 1)) (C := RX6) (T := TX6) (N := 7) hx hb hts in_wsX6_stateLetter_X6 hown hK.1 hP 0 rfl rfl 6 (by decide) (w_mem hts 2 rfl) (fun _ h9 => h9) rfl dX6_stateLetter_5 ?_
  refine lv_ior hx hb dX6_stateLetter_8 ?_
  refine lv_iload_n hx hb dX6_stateLetter_9 rfl (lv_at hl 1 rfl) ?_
  obtain ⟨r_1, hr_1, h⟩ := bd_ex h
  refine ro_i (va_runS (As := [.int ((C.1 0) ||| (C.1 1)), .int x1]) (rest := []) ⟨hx, hb, hml, hown, hts⟩ (kX6_has l G q C ((C.1 0) ||| (C.1 1)) x1 r_1 hr_1) (va_cwS 2 hts gX6_stateLetter_X6_has rfl rfl rfl (by decide +kernel) ⟨Nat.le_of_ble_eq_true rfl, Nat.le_of_ble_eq_true rfl⟩) (roS hP hK) rfl rfl hl.1 rfl (lv_room (Nat.le_of_ble_eq_true rfl)) dX6_stateLetter_10 ⟨Nat.zero_le _, Nat.zero_le _⟩) ?_
  refine lv_if_eq (tgt := 35) hx hb dX6_stateLetter_13 (by decide) (fun c_13 => ?_) (fun c_13 => ?_)
  · have h := br_T h c_13
    refine lv_iload_n hx hb dX6_stateLetter_35 rfl (lv_at hl 2 rfl) ?_
    refine lv_if_eq (tgt := 51) hx hb dX6_stateLetter_36 (by decide) (fun c_36 => ?_) (fun c_36 => ?_)
    · have h := br_T h c_36
      refine lv_bipush (v := 120) hx hb dX6_stateLetter_51 (by decide) ?_
      exact GoI.end hx hb hr hlocks dX6_stateLetter_53 rfl h
    · have h := br_F h c_36
      refine lv_iload_n hx hb dX6_stateLetter_39 rfl (lv_at hl 3 rfl) ?_
      refine lv_if_eq (tgt := 48) hx hb dX6_stateLetter_40 (by decide) (fun c_40 => ?_) (fun c_40 => ?_)
      · have h := br_T h c_40
        refine lv_bipush (v := 97) hx hb dX6_stateLetter_48 (by decide) ?_
        exact GoI.end hx hb hr hlocks dX6_stateLetter_50 rfl h
      · have h := br_F h c_40
        refine lv_bipush (v := 111) hx hb dX6_stateLetter_43 (by decide) ?_
        refine lv_goto (tgt := 50) hx hb dX6_stateLetter_45 (by decide) ?_
        exact GoI.end hx hb hr hlocks dX6_stateLetter_50 rfl h
  · have h := br_F h c_13
    refine lv_aload_n hx hb dX6_stateLetter_16 rfl (lv_at hl 0 rfl) ?_
    refine va_get (D := G.1) (ci := 5) (v := .int (C.1 0)) (C := RX6) (T := TX6) (N := 7) hx hb hts in_wsX6_stateLetter_X6 hown hK.1 hP 0 rfl rfl 5 (by decide) (w_mem hts 1 rfl) (fun _ h9 => h9) rfl dX6_stateLetter_17 ?_
    refine lv_iload_n hx hb dX6_stateLetter_20 rfl (lv_at hl 1 rfl) ?_
    obtain ⟨r_2, hr_2, h⟩ := bd_ex h
    refine ro_i (va_runS (As := [.int (C.1 0), .int x1]) (rest := []) ⟨hx, hb, hml, hown, hts⟩ (kX6_has l G q C (C.1 0) x1 r_2 hr_2) (va_cwS 2 hts gX6_stateLetter_X6_has rfl rfl rfl (by decide +kernel) ⟨Nat.le_of_ble_eq_true rfl, Nat.le_of_ble_eq_true rfl⟩) (roS hP hK) rfl rfl hl.1 rfl (lv_room (Nat.le_of_ble_eq_true rfl)) dX6_stateLetter_21 ⟨Nat.zero_le _, Nat.zero_le _⟩) ?_
    refine lv_if_eq (tgt := 32) hx hb dX6_stateLetter_24 (by decide) (fun c_24 => ?_) (fun c_24 => ?_)
    · have h := br_T h c_24
      refine lv_bipush (v := 114) hx hb dX6_stateLetter_32 (by decide) ?_
      exact GoI.end hx hb hr hlocks dX6_stateLetter_34 rfl h
    · have h := br_F h c_24
      refine lv_bipush (v := 99) hx hb dX6_stateLetter_27 (by decide) ?_
      refine lv_goto (tgt := 34) hx hb dX6_stateLetter_29 (by decide) ?_
      exact GoI.end hx hb hr hlocks dX6_stateLetter_34 rfl h

def rmX6_isAllowed : Room := { frames := 3, cells := 0, slots := 0, locals := 68 }

theorem in_wsX6_isAllowed_X6 : ∀ w ∈ u_ws RX6 TX6 7, w ∈ wsX6_isAllowed := by decide +kernel

set_option maxHeartbeats 4000000 in
set_option maxRecDepth 100000 in
theorem kX6_isAllowed (l : Launch) (G : GT) (q : Nat → Nat) (C : St) (x1 : Int32) (r : Int32) (h : pX6_isAllowed C x1 = some r) : Met l yX6_isAllowed wsX6_isAllowed rmX6_isAllowed (va_Pc [.ref (q 0), .int x1] (roP G (CW G q C))) (vp_Si (fun v => v = r)) 0 0 (fun _ => False) := by
  refine Met.ofW (cc := cX6_isAllowed) (maxL := 2) (ret := (some .boolean)) (by decide) rfl ?_
  intro p e s m args below meth c s₁ B hml hv
  obtain ⟨rfl, hP, hK⟩ := hv
  have bx := bx_of B hml
  obtain ⟨hx, hb, hr, hts, hown, hml, hlocks⟩ := id bx
  have hl := lv_entry ([.ref (q 0), .int x1]) (n := 2) (Nat.le_of_ble_eq_true rfl)
  rw [lg_entry_eq]
  generalize (lg_sl ([.ref (q 0), .int x1]) ++ List.replicate (2 - (lg_sl ([.ref (q 0), .int x1])).length) Slot.unset).toArray = ls at hl ⊢
  have hl : lv_has ls 2 [(0, .ref (q 0)), (1, .int x1)] := hl
  show GoI p l e rmX6_isAllowed s m _ below meth c r (F0 m 0 ls [])
  unfold pX6_isAllowed at h
  refine lv_aload_n hx hb dX6_isAllowed_0 rfl (lv_at hl 0 rfl) ?_
  refine va_get (D := G.1) (ci := 5) (v := .ref (q 1)) (C := RX6) (T := TX6) (N := 7) hx hb hts in_wsX6_isAllowed_X6 hown hK.1 hP 0 rfl rfl 0 (by decide) (w_mem hts 1 rfl) (fun _ h9 => h9) rfl dX6_isAllowed_1 ?_
  refine lv_iload_n hx hb dX6_isAllowed_4 rfl (lv_at hl 1 rfl) ?_
  obtain ⟨r_1, hr_1, h⟩ := bd_ex h
  refine ro_i (va_runVN (As := [.int x1]) (rest := []) ⟨hx, hb, hml, hown, hts⟩ (kX5_allows l G q C x1 r_1 hr_1) ⟨va_cnB 1 hts gX6_isAllowed_X5_allows_n277 rfl rfl rfl (hK.2.nw 10 rfl) (w_mem hts 4 rfl) (by decide +kernel) ⟨Nat.le_of_ble_eq_true rfl, Nat.le_of_ble_eq_true rfl⟩, (w_mem hts 3 rfl), (w_mem hts 5 rfl)⟩ (roV hP hK 4 1 rfl rfl) rfl rfl hl.1 rfl (lv_room (Nat.le_of_ble_eq_true rfl)) dX6_isAllowed_5 ⟨Nat.zero_le _, Nat.zero_le _⟩) ?_
  refine lv_if_eq (tgt := 26) hx hb dX6_isAllowed_8 (by decide) (fun c_8 => ?_) (fun c_8 => ?_)
  · have h := br_T h c_8
    refine lv_iconst (v := 0) hx hb dX6_isAllowed_26 (by decide) ?_
    exact GoI.end hx hb hr hlocks dX6_isAllowed_27 rfl h
  · have h := br_F h c_8
    refine lv_aload_n hx hb dX6_isAllowed_11 rfl (lv_at hl 0 rfl) ?_
    refine va_get (D := G.1) (ci := 5) (v := .ref (q 2)) (C := RX6) (T := TX6) (N := 7) hx hb hts in_wsX6_isAllowed_X6 hown hK.1 hP 0 rfl rfl 1 (by decide) (w_mem hts 2 rfl) (fun _ h9 => h9) rfl dX6_isAllowed_12 ?_
    refine lv_iload_n hx hb dX6_isAllowed_15 rfl (lv_at hl 1 rfl) ?_
    obtain ⟨r_2, hr_2, h⟩ := bd_ex h
    refine ro_i (va_runVN (As := [.int x1]) (rest := []) ⟨hx, hb, hml, hown, hts⟩ (kX3_holdFor l G q C x1 r_2 hr_2) ⟨va_cnB 1 hts gX6_isAllowed_X3_holdFor_n280 rfl rfl rfl (hK.2.nw 11 rfl) (w_mem hts 28 rfl) (by decide +kernel) ⟨Nat.le_of_ble_eq_true rfl, Nat.le_of_ble_eq_true rfl⟩, (w_mem hts 27 rfl), (w_mem hts 29 rfl)⟩ (roV hP hK 3 2 rfl rfl) rfl rfl hl.1 rfl (lv_room (Nat.le_of_ble_eq_true rfl)) dX6_isAllowed_16 ⟨Nat.zero_le _, Nat.zero_le _⟩) ?_
    refine lv_if_eq (tgt := 26) hx hb dX6_isAllowed_19 (by decide) (fun c_19 => ?_) (fun c_19 => ?_)
    · have h := br_T h c_19
      refine lv_iconst (v := 0) hx hb dX6_isAllowed_26 (by decide) ?_
      exact GoI.end hx hb hr hlocks dX6_isAllowed_27 rfl h
    · have h := br_F h c_19
      refine lv_iconst (v := 1) hx hb dX6_isAllowed_22 (by decide) ?_
      refine lv_goto (tgt := 27) hx hb dX6_isAllowed_23 (by decide) ?_
      exact GoI.end hx hb hr hlocks dX6_isAllowed_27 rfl h

def rmX6_isCompletion : Room := { frames := 4, cells := 0, slots := 0, locals := 89 }

theorem in_wsX6_isCompletion_X6 : ∀ w ∈ u_ws RX6 TX6 7, w ∈ wsX6_isCompletion := by decide +kernel

set_option maxHeartbeats 4000000 in
set_option maxRecDepth 100000 in
theorem kX6_isCompletion (l : Launch) (G : GT) (q : Nat → Nat) (C : St) (x1 : Int32) (r : Int32) (h : pX6_isCompletion C x1 = some r) : Met l yX6_isCompletion wsX6_isCompletion rmX6_isCompletion (va_Pc [.ref (q 0), .int x1] (roP G (CW G q C))) (vp_Si (fun v => v = r)) 0 0 (fun _ => False) := by
  refine Met.ofW (cc := cX6_isCompletion) (maxL := 2) (ret := (some .boolean)) (by decide) rfl ?_
  intro p e s m args below meth c s₁ B hml hv
  obtain ⟨rfl, hP, hK⟩ := hv
  have bx := bx_of B hml
  obtain ⟨hx, hb, hr, hts, hown, hml, hlocks⟩ := id bx
  have hl := lv_entry ([.ref (q 0), .int x1]) (n := 2) (Nat.le_of_ble_eq_true rfl)
  rw [lg_entry_eq]
  generalize (lg_sl ([.ref (q 0), .int x1]) ++ List.replicate (2 - (lg_sl ([.ref (q 0), .int x1])).length) Slot.unset).toArray = ls at hl ⊢
  have hl : lv_has ls 2 [(0, .ref (q 0)), (1, .int x1)] := hl
  show GoI p l e rmX6_isCompletion s m _ below meth c r (F0 m 0 ls [])
  unfold pX6_isCompletion at h
  refine lv_aload_n hx hb dX6_isCompletion_0 rfl (lv_at hl 0 rfl) ?_
  refine va_get (D := G.1) (ci := 5) (v := .int (C.1 0)) (C := RX6) (T := TX6) (N := 7) hx hb hts in_wsX6_isCompletion_X6 hown hK.1 hP 0 rfl rfl 5 (by decide) (w_mem hts 1 rfl) (fun _ h9 => h9) rfl dX6_isCompletion_1 ?_
  refine lv_iload_n hx hb dX6_isCompletion_4 rfl (lv_at hl 1 rfl) ?_
  refine lv_iconst (v := (-1)) hx hb dX6_isCompletion_5 (by decide) ?_
  refine lv_ixor hx hb dX6_isCompletion_6 ?_
  refine lv_iand hx hb dX6_isCompletion_7 ?_
  refine lv_if_ne (tgt := 32) hx hb dX6_isCompletion_8 (by decide) (fun c_8 => ?_) (fun c_8 => ?_)
  · have h := br_F h c_8
    refine lv_iconst (v := 0) hx hb dX6_isCompletion_32 (by decide) ?_
    exact GoI.end hx hb hr hlocks dX6_isCompletion_33 rfl h
  · have h := br_T h c_8
    refine lv_aload_n hx hb dX6_isCompletion_11 rfl (lv_at hl 0 rfl) ?_
    refine va_get (D := G.1) (ci := 5) (v := .int (C.1 1)) (C := RX6) (T := TX6) (N := 7) hx hb hts in_wsX6_isCompletion_X6 hown hK.1 hP 0 rfl rfl 6 (by decide) (w_mem hts 2 rfl) (fun _ h9 => h9) rfl dX6_isCompletion_12 ?_
    refine lv_iload_n hx hb dX6_isCompletion_15 rfl (lv_at hl 1 rfl) ?_
    refine lv_iand hx hb dX6_isCompletion_16 ?_
    refine lv_if_ne (tgt := 32) hx hb dX6_isCompletion_17 (by decide) (fun c_17 => ?_) (fun c_17 => ?_)
    · have h := br_F h c_17
      refine lv_iconst (v := 0) hx hb dX6_isCompletion_32 (by decide) ?_
      exact GoI.end hx hb hr hlocks dX6_isCompletion_33 rfl h
    · have h := br_T h c_17
      refine lv_aload_n hx hb dX6_isCompletion_20 rfl (lv_at hl 0 rfl) ?_
      refine lv_iload_n hx hb dX6_isCompletion_21 rfl (lv_at hl 1 rfl) ?_
      obtain ⟨r_1, hr_1, h⟩ := bd_ex h
      refine ro_i (va_runV (As := [.int x1]) (rest := []) ⟨hx, hb, hml, hown, hts⟩ (kX6_isAllowed l G q C x1 r_1 hr_1) (cwV 1 hts gX6_isCompletion_X6_isAllowed rfl rfl rfl (by decide +kernel) ⟨Nat.le_of_ble_eq_true rfl, Nat.le_of_ble_eq_true rfl⟩) (roV hP hK 5 0 rfl rfl) rfl rfl hl.1 rfl (lv_room (Nat.le_of_ble_eq_true rfl)) dX6_isCompletion_22 ⟨Nat.zero_le _, Nat.zero_le _⟩) ?_
      refine lv_if_eq (tgt := 32) hx hb dX6_isCompletion_25 (by decide) (fun c_25 => ?_) (fun c_25 => ?_)
      · have h := br_T h c_25
        refine lv_iconst (v := 0) hx hb dX6_isCompletion_32 (by decide) ?_
        exact GoI.end hx hb hr hlocks dX6_isCompletion_33 rfl h
      · have h := br_F h c_25
        refine lv_iconst (v := 1) hx hb dX6_isCompletion_28 (by decide) ?_
        refine lv_goto (tgt := 33) hx hb dX6_isCompletion_29 (by decide) ?_
        exact GoI.end hx hb hr hlocks dX6_isCompletion_33 rfl h

def rmX6_hasCompletion : Room := { frames := 17, cells := 0, slots := 0, locals := 434 }

theorem in_wsX6_hasCompletion_X6 : ∀ w ∈ u_ws RX6 TX6 7, w ∈ wsX6_hasCompletion := by decide +kernel

set_option maxHeartbeats 4000000 in
set_option maxRecDepth 100000 in
theorem kX6_hasCompletion (l : Launch) (G : GT) (q : Nat → Nat) (C : St) (r : Int32) (h : pX6_hasCompletion C = some r) : Met l yX6_hasCompletion wsX6_hasCompletion rmX6_hasCompletion (va_Pc [.ref (q 0)] (roP G (CW G q C))) (vp_Si (fun v => v = r)) 0 0 (fun _ => False) := by
  refine Met.ofW (cc := cX6_hasCompletion) (maxL := 1) (ret := (some .boolean)) (by decide) rfl ?_
  intro p e s m args below meth c s₁ B hml hv
  obtain ⟨rfl, hP, hK⟩ := hv
  have bx := bx_of B hml
  obtain ⟨hx, hb, hr, hts, hown, hml, hlocks⟩ := id bx
  have hl := lv_entry ([.ref (q 0)]) (n := 1) (Nat.le_of_ble_eq_true rfl)
  rw [lg_entry_eq]
  generalize (lg_sl ([.ref (q 0)]) ++ List.replicate (1 - (lg_sl ([.ref (q 0)])).length) Slot.unset).toArray = ls at hl ⊢
  have hl : lv_has ls 1 [(0, .ref (q 0))] := hl
  show GoI p l e rmX6_hasCompletion s m _ below meth c r (F0 m 0 ls [])
  unfold pX6_hasCompletion at h
  refine lv_aload_n hx hb dX6_hasCompletion_0 rfl (lv_at hl 0 rfl) ?_
  refine va_get (D := G.1) (ci := 5) (v := .ref (q 1)) (C := RX6) (T := TX6) (N := 7) hx hb hts in_wsX6_hasCompletion_X6 hown hK.1 hP 0 rfl rfl 0 (by decide) (w_mem hts 1 rfl) (fun _ h9 => h9) rfl dX6_hasCompletion_1 ?_
  refine lv_aload_n hx hb dX6_hasCompletion_4 rfl (lv_at hl 0 rfl) ?_
  refine va_get (D := G.1) (ci := 5) (v := .ref (q 2)) (C := RX6) (T := TX6) (N := 7) hx hb hts in_wsX6_hasCompletion_X6 hown hK.1 hP 0 rfl rfl 1 (by decide) (w_mem hts 2 rfl) (fun _ h9 => h9) rfl dX6_hasCompletion_5 ?_
  refine lv_iconst (v := 0) hx hb dX6_hasCompletion_8 (by decide) ?_
  refine lv_iconst (v := 0) hx hb dX6_hasCompletion_9 (by decide) ?_
  refine lv_aload_n hx hb dX6_hasCompletion_10 rfl (lv_at hl 0 rfl) ?_
  refine va_get (D := G.1) (ci := 5) (v := .int (C.1 0)) (C := RX6) (T := TX6) (N := 7) hx hb hts in_wsX6_hasCompletion_X6 hown hK.1 hP 0 rfl rfl 5 (by decide) (w_mem hts 3 rfl) (fun _ h9 => h9) rfl dX6_hasCompletion_11 ?_
  refine lv_aload_n hx hb dX6_hasCompletion_14 rfl (lv_at hl 0 rfl) ?_
  refine va_get (D := G.1) (ci := 5) (v := .int (C.1 1)) (C := RX6) (T := TX6) (N := 7) hx hb hts in_wsX6_hasCompletion_X6 hown hK.1 hP 0 rfl rfl 6 (by decide) (w_mem hts 4 rfl) (fun _ h9 => h9) rfl dX6_hasCompletion_15 ?_
  obtain ⟨r_1, hr_1, h⟩ := bd_ex h
  refine ro_i (va_runSN (As := [.ref (q 1), .ref (q 2), .int 0, .int 0, .int (C.1 0), .int (C.1 1)]) (rest := []) ⟨hx, hb, hml, hown, hts⟩ (kX4_reaches l RU G q C 0 0 (C.1 0) (C.1 1) r_1 hr_1) ⟨va_cnB 6 hts gX6_hasCompletion_X4_reaches_n141 rfl rfl rfl (hK.2.nw 7 rfl) (w_mem hts 6 rfl) (by decide +kernel) ⟨Nat.le_of_ble_eq_true rfl, Nat.le_of_ble_eq_true rfl⟩, (w_mem hts 5 rfl), trivial⟩ (roS hP hK) rfl rfl hl.1 rfl (lv_room (Nat.le_of_ble_eq_true rfl)) dX6_hasCompletion_18 ⟨Nat.zero_le _, Nat.zero_le _⟩) ?_
  obtain ⟨g21, h⟩ := gd_ex h
  exact GoI.end hx hb hr hlocks dX6_hasCompletion_21 (okZ_n g21) h

def rmX6_featuresInAll : Room := { frames := 5, cells := 0, slots := 0, locals := 110 }

theorem in_wsX6_featuresInAll_X6 : ∀ w ∈ u_ws RX6 TX6 7, w ∈ wsX6_featuresInAll := by decide +kernel

set_option maxHeartbeats 4000000 in
set_option maxRecDepth 100000 in
theorem wX6_featuresInAll_29 {p : Program} {l : Launch} {e : Env} {s : State} {m : MethodId} {args : Array Value} {below : List Frame} {meth : Method} {c : Code} {G : GT} {q : Nat → Nat} {C : St} {out : Int32} (bx : BX p RX6 wsX6_featuresInAll cX6_featuresInAll 4 (some .int) s m args meth c) (hP : va_P G.1 vwCl (CW G q C) s.heap) (hK : CK G s) {k12 : St → Int32 → Int32 → Int32 → Option (Int32)} (hk12 : ∀ (x1 : Int32) (x2 : Int32) (x3 : Int32), k12 C x1 x2 x3 = some out → ∀ (ls : Array Slot), lv_has ls 4 [(0, .ref (q 0)), (1, .int x1), (2, .int x2), (3, .int x3)] → GoI p l e rmX6_featuresInAll s m args below meth c out (F0 m 12 ls [])) (x1 : Int32) (x2 : Int32) (x3 : Int32) (h : pX6_featuresInAll_29 k12 C x1 x2 x3 = some out) (ls : Array Slot) (hl : lv_has ls 4 [(0, .ref (q 0)), (1, .int x1), (2, .int x2), (3, .int x3)]) : GoI p l e rmX6_featuresInAll s m args below meth c out (F0 m 29 ls []) := by
  obtain ⟨hx, hb, hr, hts, hown, hml, hlocks⟩ := id bx
  unfold pX6_featuresInAll_29 at h
  obtain ⟨v_3, ev_3, h⟩ := ltv_ex h
  refine lv_iinc (v := v_3) (lv' := [(3, .int v_3), (0, .ref (q 0)), (1, .int x1), (2, .int x2)]) hx hb dX6_featuresInAll_29 hl (k := 3) rfl (by rw [ev_3]; rfl) (by decide) rfl (fun ls hl => ?_)
  refine lv_goto (tgt := 12) hx hb dX6_featuresInAll_32 (by decide) ?_
  exact hk12 x1 x2 v_3 h _ (lv_sub hl [1, 2, 3, 0] rfl)

set_option maxHeartbeats 4000000 in
set_option maxRecDepth 100000 in
theorem wX6_featuresInAll_12_b {p : Program} {l : Launch} {e : Env} {s : State} {m : MethodId} {args : Array Value} {below : List Frame} {meth : Method} {c : Code} {G : GT} {q : Nat → Nat} {C : St} {out : Int32} (bx : BX p RX6 wsX6_featuresInAll cX6_featuresInAll 4 (some .int) s m args meth c) (hP : va_P G.1 vwCl (CW G q C) s.heap) (hK : CK G s) {k12 : St → Int32 → Int32 → Int32 → Option (Int32)} (hk12 : ∀ (x1 : Int32) (x2 : Int32) (x3 : Int32), k12 C x1 x2 x3 = some out → ∀ (ls : Array Slot), lv_has ls 4 [(0, .ref (q 0)), (1, .int x1), (2, .int x2), (3, .int x3)] → GoI p l e rmX6_featuresInAll s m args below meth c out (F0 m 12 ls [])) (x1 : Int32) (x2 : Int32) (x3 : Int32) (h : pX6_featuresInAll_12_b k12 C x1 x2 x3 = some out) (ls : Array Slot) (hl : lv_has ls 4 [(0, .ref (q 0)), (1, .int x1), (2, .int x2), (3, .int x3)]) : GoI p l e rmX6_featuresInAll s m args below meth c out (F0 m 12 ls []) := by
  obtain ⟨hx, hb, hr, hts, hown, hml, hlocks⟩ := id bx
  unfold pX6_featuresInAll_12_b at h
  refine lv_iload_n hx hb dX6_featuresInAll_12 rfl (lv_at hl 3 rfl) ?_
  refine lv_iload_n hx hb dX6_featuresInAll_13 rfl (lv_at hl 1 rfl) ?_
  refine lv_icmp_gt (tgt := 35) hx hb dX6_featuresInAll_14 (by decide) (fun c_14 => ?_) (fun c_14 => ?_)
  · have h := br_T h c_14
    refine lv_iload_n hx hb dX6_featuresInAll_35 rfl (lv_at hl 2 rfl) ?_
    exact GoI.end hx hb hr hlocks dX6_featuresInAll_36 rfl h
  · have h := br_F h c_14
    refine lv_aload_n hx hb dX6_featuresInAll_17 rfl (lv_at hl 0 rfl) ?_
    refine lv_iload_n hx hb dX6_featuresInAll_18 rfl (lv_at hl 3 rfl) ?_
    obtain ⟨r_2, hr_2, h⟩ := bd_ex h
    refine ro_i (va_runV (As := [.int x3]) (rest := []) ⟨hx, hb, hml, hown, hts⟩ (kX6_isCompletion l G q C x3 r_2 hr_2) (cwV 1 hts gX6_featuresInAll_X6_isCompletion rfl rfl rfl (by decide +kernel) ⟨Nat.le_of_ble_eq_true rfl, Nat.le_of_ble_eq_true rfl⟩) (roV hP hK 5 0 rfl rfl) rfl rfl hl.1 rfl (lv_room (Nat.le_of_ble_eq_true rfl)) dX6_featuresInAll_19 ⟨Nat.zero_le _, Nat.zero_le _⟩) ?_
    refine lv_if_eq (tgt := 29) hx hb dX6_featuresInAll_22 (by decide) (fun c_22 => ?_) (fun c_22 => ?_)
    · have h := br_T h c_22
      exact wX6_featuresInAll_29 bx hP hK hk12 x1 x2 x3 h _ (lv_sub hl [0, 1, 2, 3] rfl)
    · have h := br_F h c_22
      refine lv_iload_n hx hb dX6_featuresInAll_25 rfl (lv_at hl 2 rfl) ?_
      refine lv_iload_n hx hb dX6_featuresInAll_26 rfl (lv_at hl 3 rfl) ?_
      refine lv_iand hx hb dX6_featuresInAll_27 ?_
      refine lv_topi (fun v_4 ev_4 => ?_)
      have h := ltv_at h v_4 ev_4
      refine lv_istore_n (lv' := [(2, .int v_4), (0, .ref (q 0)), (1, .int x1), (3, .int x3)]) hx hb dX6_featuresInAll_28 rfl hl (by decide) rfl (fun ls hl => ?_)
      exact wX6_featuresInAll_29 bx hP hK hk12 x1 v_4 x3 h _ (lv_sub hl [1, 2, 0, 3] rfl)

theorem wX6_featuresInAll_12 {p : Program} {l : Launch} {e : Env} {s : State} {m : MethodId} {args : Array Value} {below : List Frame} {meth : Method} {c : Code} {G : GT} {q : Nat → Nat} {C : St} {out : Int32} (bx : BX p RX6 wsX6_featuresInAll cX6_featuresInAll 4 (some .int) s m args meth c) (hP : va_P G.1 vwCl (CW G q C) s.heap) (hK : CK G s) :
    ∀ (n : Nat) (x1 : Int32) (x2 : Int32) (x3 : Int32), pX6_featuresInAll_12 n C x1 x2 x3 = some out → ∀ (ls : Array Slot), lv_has ls 4 [(0, .ref (q 0)), (1, .int x1), (2, .int x2), (3, .int x3)] → GoI p l e rmX6_featuresInAll s m args below meth c out (F0 m 12 ls []) := by
  intro n
  induction n with
  | zero => intro _ _ _ h; cases h
  | succ n ih => exact fun a0 a1 a2 h ls hl => wX6_featuresInAll_12_b bx hP hK ih a0 a1 a2 h ls hl

set_option maxHeartbeats 4000000 in
set_option maxRecDepth 100000 in
theorem kX6_featuresInAll (l : Launch) (G : GT) (q : Nat → Nat) (C : St) (r : Int32) (h : pX6_featuresInAll C = some r) : Met l yX6_featuresInAll wsX6_featuresInAll rmX6_featuresInAll (va_Pc [.ref (q 0)] (roP G (CW G q C))) (vp_Si (fun v => v = r)) 0 0 (fun _ => False) := by
  refine Met.ofW (cc := cX6_featuresInAll) (maxL := 4) (ret := (some .int)) (by decide) rfl ?_
  intro p e s m args below meth c s₁ B hml hv
  obtain ⟨rfl, hP, hK⟩ := hv
  have bx := bx_of B hml
  obtain ⟨hx, hb, hr, hts, hown, hml, hlocks⟩ := id bx
  have hl := lv_entry ([.ref (q 0)]) (n := 4) (Nat.le_of_ble_eq_true rfl)
  rw [lg_entry_eq]
  generalize (lg_sl ([.ref (q 0)]) ++ List.replicate (4 - (lg_sl ([.ref (q 0)])).length) Slot.unset).toArray = ls at hl ⊢
  have hl : lv_has ls 4 [(0, .ref (q 0))] := hl
  show GoI p l e rmX6_featuresInAll s m _ below meth c r (F0 m 0 ls [])
  unfold pX6_featuresInAll at h
  refine lv_aload_n hx hb dX6_featuresInAll_0 rfl (lv_at hl 0 rfl) ?_
  refine va_get (D := G.1) (ci := 5) (v := .ref (q 1)) (C := RX6) (T := TX6) (N := 7) hx hb hts in_wsX6_featuresInAll_X6 hown hK.1 hP 0 rfl rfl 0 (by decide) (w_mem hts 1 rfl) (fun _ h9 => h9) rfl dX6_featuresInAll_1 ?_
  obtain ⟨r_1, hr_1, h⟩ := bd_ex h
  refine ro_i (va_runVN (As := []) (rest := []) ⟨hx, hb, hml, hown, hts⟩ (kX5_allFeatures l G q C r_1 hr_1) ⟨va_cnB 0 hts gX6_featuresInAll_X5_allFeatures_n200 rfl rfl rfl (hK.2.nw 9 rfl) (w_mem hts 3 rfl) (by decide +kernel) ⟨Nat.le_of_ble_eq_true rfl, Nat.le_of_ble_eq_true rfl⟩, (w_mem hts 2 rfl), (w_mem hts 4 rfl)⟩ (roV hP hK 4 1 rfl rfl) rfl rfl hl.1 rfl (lv_room (Nat.le_of_ble_eq_true rfl)) dX6_featuresInAll_4 ⟨Nat.zero_le _, Nat.zero_le _⟩) ?_
  refine lv_istore_n (lv' := [(1, .int r_1), (0, .ref (q 0))]) hx hb dX6_featuresInAll_7 rfl hl (by decide) rfl (fun ls hl => ?_)
  refine lv_iload_n hx hb dX6_featuresInAll_8 rfl (lv_at hl 0 rfl) ?_
  refine lv_istore_n (lv' := [(2, .int r_1), (1, .int r_1), (0, .ref (q 0))]) hx hb dX6_featuresInAll_9 rfl hl (by decide) rfl (fun ls hl => ?_)
  refine lv_iconst (v := 0) hx hb dX6_featuresInAll_10 (by decide) ?_
  refine lv_istore_n (lv' := [(3, .int 0), (2, .int r_1), (1, .int r_1), (0, .ref (q 0))]) hx hb dX6_featuresInAll_11 rfl hl (by decide) rfl (fun ls hl => ?_)
  exact wX6_featuresInAll_12 bx hP hK FU r_1 r_1 0 h _ (lv_sub hl [3, 2, 1, 0] rfl)

def rmX6_featuresInSome : Room := { frames := 5, cells := 0, slots := 0, locals := 110 }

theorem in_wsX6_featuresInSome_X6 : ∀ w ∈ u_ws RX6 TX6 7, w ∈ wsX6_featuresInSome := by decide +kernel

set_option maxHeartbeats 4000000 in
set_option maxRecDepth 100000 in
theorem wX6_featuresInSome_29 {p : Program} {l : Launch} {e : Env} {s : State} {m : MethodId} {args : Array Value} {below : List Frame} {meth : Method} {c : Code} {G : GT} {q : Nat → Nat} {C : St} {out : Int32} (bx : BX p RX6 wsX6_featuresInSome cX6_featuresInSome 4 (some .int) s m args meth c) (hP : va_P G.1 vwCl (CW G q C) s.heap) (hK : CK G s) {k12 : St → Int32 → Int32 → Int32 → Option (Int32)} (hk12 : ∀ (x1 : Int32) (x2 : Int32) (x3 : Int32), k12 C x1 x2 x3 = some out → ∀ (ls : Array Slot), lv_has ls 4 [(0, .ref (q 0)), (1, .int x1), (2, .int x2), (3, .int x3)] → GoI p l e rmX6_featuresInSome s m args below meth c out (F0 m 12 ls [])) (x1 : Int32) (x2 : Int32) (x3 : Int32) (h : pX6_featuresInSome_29 k12 C x1 x2 x3 = some out) (ls : Array Slot) (hl : lv_has ls 4 [(0, .ref (q 0)), (1, .int x1), (2, .int x2), (3, .int x3)]) : GoI p l e rmX6_featuresInSome s m args below meth c out (F0 m 29 ls []) := by
  obtain ⟨hx, hb, hr, hts, hown, hml, hlocks⟩ := id bx
  unfold pX6_featuresInSome_29 at h
  obtain ⟨v_3, ev_3, h⟩ := ltv_ex h
  refine lv_iinc (v := v_3) (lv' := [(3, .int v_3), (0, .ref (q 0)), (1, .int x1), (2, .int x2)]) hx hb dX6_featuresInSome_29 hl (k := 3) rfl (by rw [ev_3]; rfl) (by decide) rfl (fun ls hl => ?_)
  refine lv_goto (tgt := 12) hx hb dX6_featuresInSome_32 (by decide) ?_
  exact hk12 x1 x2 v_3 h _ (lv_sub hl [1, 2, 3, 0] rfl)

set_option maxHeartbeats 4000000 in
set_option maxRecDepth 100000 in
theorem wX6_featuresInSome_12_b {p : Program} {l : Launch} {e : Env} {s : State} {m : MethodId} {args : Array Value} {below : List Frame} {meth : Method} {c : Code} {G : GT} {q : Nat → Nat} {C : St} {out : Int32} (bx : BX p RX6 wsX6_featuresInSome cX6_featuresInSome 4 (some .int) s m args meth c) (hP : va_P G.1 vwCl (CW G q C) s.heap) (hK : CK G s) {k12 : St → Int32 → Int32 → Int32 → Option (Int32)} (hk12 : ∀ (x1 : Int32) (x2 : Int32) (x3 : Int32), k12 C x1 x2 x3 = some out → ∀ (ls : Array Slot), lv_has ls 4 [(0, .ref (q 0)), (1, .int x1), (2, .int x2), (3, .int x3)] → GoI p l e rmX6_featuresInSome s m args below meth c out (F0 m 12 ls [])) (x1 : Int32) (x2 : Int32) (x3 : Int32) (h : pX6_featuresInSome_12_b k12 C x1 x2 x3 = some out) (ls : Array Slot) (hl : lv_has ls 4 [(0, .ref (q 0)), (1, .int x1), (2, .int x2), (3, .int x3)]) : GoI p l e rmX6_featuresInSome s m args below meth c out (F0 m 12 ls []) := by
  obtain ⟨hx, hb, hr, hts, hown, hml, hlocks⟩ := id bx
  unfold pX6_featuresInSome_12_b at h
  refine lv_iload_n hx hb dX6_featuresInSome_12 rfl (lv_at hl 3 rfl) ?_
  refine lv_iload_n hx hb dX6_featuresInSome_13 rfl (lv_at hl 2 rfl) ?_
  refine lv_icmp_gt (tgt := 35) hx hb dX6_featuresInSome_14 (by decide) (fun c_14 => ?_) (fun c_14 => ?_)
  · have h := br_T h c_14
    refine lv_iload_n hx hb dX6_featuresInSome_35 rfl (lv_at hl 1 rfl) ?_
    exact GoI.end hx hb hr hlocks dX6_featuresInSome_36 rfl h
  · have h := br_F h c_14
    refine lv_aload_n hx hb dX6_featuresInSome_17 rfl (lv_at hl 0 rfl) ?_
    refine lv_iload_n hx hb dX6_featuresInSome_18 rfl (lv_at hl 3 rfl) ?_
    obtain ⟨r_2, hr_2, h⟩ := bd_ex h
    refine ro_i (va_runV (As := [.int x3]) (rest := []) ⟨hx, hb, hml, hown, hts⟩ (kX6_isCompletion l G q C x3 r_2 hr_2) (cwV 1 hts gX6_featuresInSome_X6_isCompletion rfl rfl rfl (by decide +kernel) ⟨Nat.le_of_ble_eq_true rfl, Nat.le_of_ble_eq_true rfl⟩) (roV hP hK 5 0 rfl rfl) rfl rfl hl.1 rfl (lv_room (Nat.le_of_ble_eq_true rfl)) dX6_featuresInSome_19 ⟨Nat.zero_le _, Nat.zero_le _⟩) ?_
    refine lv_if_eq (tgt := 29) hx hb dX6_featuresInSome_22 (by decide) (fun c_22 => ?_) (fun c_22 => ?_)
    · have h := br_T h c_22
      exact wX6_featuresInSome_29 bx hP hK hk12 x1 x2 x3 h _ (lv_sub hl [0, 1, 2, 3] rfl)
    · have h := br_F h c_22
      refine lv_iload_n hx hb dX6_featuresInSome_25 rfl (lv_at hl 1 rfl) ?_
      refine lv_iload_n hx hb dX6_featuresInSome_26 rfl (lv_at hl 3 rfl) ?_
      refine lv_ior hx hb dX6_featuresInSome_27 ?_
      refine lv_topi (fun v_4 ev_4 => ?_)
      have h := ltv_at h v_4 ev_4
      refine lv_istore_n (lv' := [(1, .int v_4), (0, .ref (q 0)), (2, .int x2), (3, .int x3)]) hx hb dX6_featuresInSome_28 rfl hl (by decide) rfl (fun ls hl => ?_)
      exact wX6_featuresInSome_29 bx hP hK hk12 v_4 x2 x3 h _ (lv_sub hl [1, 0, 2, 3] rfl)

theorem wX6_featuresInSome_12 {p : Program} {l : Launch} {e : Env} {s : State} {m : MethodId} {args : Array Value} {below : List Frame} {meth : Method} {c : Code} {G : GT} {q : Nat → Nat} {C : St} {out : Int32} (bx : BX p RX6 wsX6_featuresInSome cX6_featuresInSome 4 (some .int) s m args meth c) (hP : va_P G.1 vwCl (CW G q C) s.heap) (hK : CK G s) :
    ∀ (n : Nat) (x1 : Int32) (x2 : Int32) (x3 : Int32), pX6_featuresInSome_12 n C x1 x2 x3 = some out → ∀ (ls : Array Slot), lv_has ls 4 [(0, .ref (q 0)), (1, .int x1), (2, .int x2), (3, .int x3)] → GoI p l e rmX6_featuresInSome s m args below meth c out (F0 m 12 ls []) := by
  intro n
  induction n with
  | zero => intro _ _ _ h; cases h
  | succ n ih => exact fun a0 a1 a2 h ls hl => wX6_featuresInSome_12_b bx hP hK ih a0 a1 a2 h ls hl

set_option maxHeartbeats 4000000 in
set_option maxRecDepth 100000 in
theorem kX6_featuresInSome (l : Launch) (G : GT) (q : Nat → Nat) (C : St) (r : Int32) (h : pX6_featuresInSome C = some r) : Met l yX6_featuresInSome wsX6_featuresInSome rmX6_featuresInSome (va_Pc [.ref (q 0)] (roP G (CW G q C))) (vp_Si (fun v => v = r)) 0 0 (fun _ => False) := by
  refine Met.ofW (cc := cX6_featuresInSome) (maxL := 4) (ret := (some .int)) (by decide) rfl ?_
  intro p e s m args below meth c s₁ B hml hv
  obtain ⟨rfl, hP, hK⟩ := hv
  have bx := bx_of B hml
  obtain ⟨hx, hb, hr, hts, hown, hml, hlocks⟩ := id bx
  have hl := lv_entry ([.ref (q 0)]) (n := 4) (Nat.le_of_ble_eq_true rfl)
  rw [lg_entry_eq]
  generalize (lg_sl ([.ref (q 0)]) ++ List.replicate (4 - (lg_sl ([.ref (q 0)])).length) Slot.unset).toArray = ls at hl ⊢
  have hl : lv_has ls 4 [(0, .ref (q 0))] := hl
  show GoI p l e rmX6_featuresInSome s m _ below meth c r (F0 m 0 ls [])
  unfold pX6_featuresInSome at h
  refine lv_iconst (v := 0) hx hb dX6_featuresInSome_0 (by decide) ?_
  refine lv_istore_n (lv' := [(1, .int 0), (0, .ref (q 0))]) hx hb dX6_featuresInSome_1 rfl hl (by decide) rfl (fun ls hl => ?_)
  refine lv_aload_n hx hb dX6_featuresInSome_2 rfl (lv_at hl 1 rfl) ?_
  refine va_get (D := G.1) (ci := 5) (v := .ref (q 1)) (C := RX6) (T := TX6) (N := 7) hx hb hts in_wsX6_featuresInSome_X6 hown hK.1 hP 0 rfl rfl 0 (by decide) (w_mem hts 1 rfl) (fun _ h9 => h9) rfl dX6_featuresInSome_3 ?_
  obtain ⟨r_1, hr_1, h⟩ := bd_ex h
  refine ro_i (va_runVN (As := []) (rest := []) ⟨hx, hb, hml, hown, hts⟩ (kX5_allFeatures l G q C r_1 hr_1) ⟨va_cnB 0 hts gX6_featuresInSome_X5_allFeatures_n200 rfl rfl rfl (hK.2.nw 9 rfl) (w_mem hts 3 rfl) (by decide +kernel) ⟨Nat.le_of_ble_eq_true rfl, Nat.le_of_ble_eq_true rfl⟩, (w_mem hts 2 rfl), (w_mem hts 4 rfl)⟩ (roV hP hK 4 1 rfl rfl) rfl rfl hl.1 rfl (lv_room (Nat.le_of_ble_eq_true rfl)) dX6_featuresInSome_6 ⟨Nat.zero_le _, Nat.zero_le _⟩) ?_
  refine lv_istore_n (lv' := [(2, .int r_1), (1, .int 0), (0, .ref (q 0))]) hx hb dX6_featuresInSome_9 rfl hl (by decide) rfl (fun ls hl => ?_)
  refine lv_iconst (v := 0) hx hb dX6_featuresInSome_10 (by decide) ?_
  refine lv_istore_n (lv' := [(3, .int 0), (2, .int r_1), (1, .int 0), (0, .ref (q 0))]) hx hb dX6_featuresInSome_11 rfl hl (by decide) rfl (fun ls hl => ?_)
  exact wX6_featuresInSome_12 bx hP hK FU 0 r_1 0 h _ (lv_sub hl [3, 2, 1, 0] rfl)

def rmX6_completions : Room := { frames := 17, cells := 0, slots := 0, locals := 448 }

theorem in_wsX6_completions_X6 : ∀ w ∈ u_ws RX6 TX6 7, w ∈ wsX6_completions := by decide +kernel

set_option maxHeartbeats 4000000 in
set_option maxRecDepth 100000 in
theorem kX6_completions (l : Launch) (G : GT) (q : Nat → Nat) (C : St) (r : Int64) (h : pX6_completions C = some r) : Met l yX6_completions wsX6_completions rmX6_completions (va_Pc [.ref (q 0)] (roP G (CW G q C))) (vp_Sl (fun v => v = r)) 0 0 (fun _ => False) := by
  refine Met.ofW (cc := cX6_completions) (maxL := 1) (ret := (some .long)) (by decide) rfl ?_
  intro p e s m args below meth c s₁ B hml hv
  obtain ⟨rfl, hP, hK⟩ := hv
  have bx := bx_of B hml
  obtain ⟨hx, hb, hr, hts, hown, hml, hlocks⟩ := id bx
  have hl := lv_entry ([.ref (q 0)]) (n := 1) (Nat.le_of_ble_eq_true rfl)
  rw [lg_entry_eq]
  generalize (lg_sl ([.ref (q 0)]) ++ List.replicate (1 - (lg_sl ([.ref (q 0)])).length) Slot.unset).toArray = ls at hl ⊢
  have hl : lv_has ls 1 [(0, .ref (q 0))] := hl
  show GoL p l e rmX6_completions s m _ below meth c r (F0 m 0 ls [])
  unfold pX6_completions at h
  refine lv_aload_n hx hb dX6_completions_0 rfl (lv_at hl 0 rfl) ?_
  refine va_get (D := G.1) (ci := 5) (v := .ref (q 1)) (C := RX6) (T := TX6) (N := 7) hx hb hts in_wsX6_completions_X6 hown hK.1 hP 0 rfl rfl 0 (by decide) (w_mem hts 1 rfl) (fun _ h9 => h9) rfl dX6_completions_1 ?_
  refine lv_aload_n hx hb dX6_completions_4 rfl (lv_at hl 0 rfl) ?_
  refine va_get (D := G.1) (ci := 5) (v := .ref (q 2)) (C := RX6) (T := TX6) (N := 7) hx hb hts in_wsX6_completions_X6 hown hK.1 hP 0 rfl rfl 1 (by decide) (w_mem hts 2 rfl) (fun _ h9 => h9) rfl dX6_completions_5 ?_
  refine lv_iconst (v := 0) hx hb dX6_completions_8 (by decide) ?_
  refine lv_iconst (v := 0) hx hb dX6_completions_9 (by decide) ?_
  refine lv_aload_n hx hb dX6_completions_10 rfl (lv_at hl 0 rfl) ?_
  refine va_get (D := G.1) (ci := 5) (v := .int (C.1 0)) (C := RX6) (T := TX6) (N := 7) hx hb hts in_wsX6_completions_X6 hown hK.1 hP 0 rfl rfl 5 (by decide) (w_mem hts 3 rfl) (fun _ h9 => h9) rfl dX6_completions_11 ?_
  refine lv_aload_n hx hb dX6_completions_14 rfl (lv_at hl 0 rfl) ?_
  refine va_get (D := G.1) (ci := 5) (v := .int (C.1 1)) (C := RX6) (T := TX6) (N := 7) hx hb hts in_wsX6_completions_X6 hown hK.1 hP 0 rfl rfl 6 (by decide) (w_mem hts 4 rfl) (fun _ h9 => h9) rfl dX6_completions_15 ?_
  obtain ⟨r_1, hr_1, h⟩ := bd_ex h
  refine ro_l (va_runSN (As := [.ref (q 1), .ref (q 2), .int 0, .int 0, .int (C.1 0), .int (C.1 1)]) (rest := []) ⟨hx, hb, hml, hown, hts⟩ (kX4_countFrom l RU G q C 0 0 (C.1 0) (C.1 1) r_1 hr_1) ⟨va_cnB 6 hts gX6_completions_X4_countFrom_n196 rfl rfl rfl (hK.2.nw 8 rfl) (w_mem hts 6 rfl) (by decide +kernel) ⟨Nat.le_of_ble_eq_true rfl, Nat.le_of_ble_eq_true rfl⟩, (w_mem hts 5 rfl), trivial⟩ (roS hP hK) rfl rfl hl.1 rfl (lv_room (Nat.le_of_ble_eq_true rfl)) dX6_completions_18 ⟨Nat.zero_le _, Nat.zero_le _⟩) ?_
  exact GoL.end hx hb hr hlocks dX6_completions_21 h

def rmX6_completionsByAll : Room := { frames := 5, cells := 0, slots := 0, locals := 110 }

theorem in_wsX6_completionsByAll_X6 : ∀ w ∈ u_ws RX6 TX6 7, w ∈ wsX6_completionsByAll := by decide +kernel

set_option maxHeartbeats 4000000 in
set_option maxRecDepth 100000 in
theorem wX6_completionsByAll_32 {p : Program} {l : Launch} {e : Env} {s : State} {m : MethodId} {args : Array Value} {below : List Frame} {meth : Method} {c : Code} {G : GT} {q : Nat → Nat} {C : St} {out : Int64} (bx : BX p RX6 wsX6_completionsByAll cX6_completionsByAll 5 (some .long) s m args meth c) (hP : va_P G.1 vwCl (CW G q C) s.heap) (hK : CK G s) {k13 : St → Int64 → Int32 → Int32 → Option (Int64)} (hk13 : ∀ (x1 : Int64) (x3 : Int32) (x4 : Int32), k13 C x1 x3 x4 = some out → ∀ (ls : Array Slot), lv_has ls 5 [(0, .ref (q 0)), (1, .long x1), (3, .int x3), (4, .int x4)] → GoL p l e rmX6_completionsByAll s m args below meth c out (F0 m 13 ls [])) (x1 : Int64) (x3 : Int32) (x4 : Int32) (h : pX6_completionsByAll_32 k13 C x1 x3 x4 = some out) (ls : Array Slot) (hl : lv_has ls 5 [(0, .ref (q 0)), (1, .long x1), (3, .int x3), (4, .int x4)]) : GoL p l e rmX6_completionsByAll s m args below meth c out (F0 m 32 ls []) := by
  obtain ⟨hx, hb, hr, hts, hown, hml, hlocks⟩ := id bx
  unfold pX6_completionsByAll_32 at h
  obtain ⟨v_3, ev_3, h⟩ := ltv_ex h
  refine lv_iinc (v := v_3) (lv' := [(4, .int v_3), (0, .ref (q 0)), (1, .long x1), (3, .int x3)]) hx hb dX6_completionsByAll_32 hl (k := 3) rfl (by rw [ev_3]; rfl) (by decide) rfl (fun ls hl => ?_)
  refine lv_goto (tgt := 13) hx hb dX6_completionsByAll_35 (by decide) ?_
  exact hk13 x1 x3 v_3 h _ (lv_sub hl [1, 2, 3, 0] rfl)

set_option maxHeartbeats 4000000 in
set_option maxRecDepth 100000 in
theorem wX6_completionsByAll_13_b {p : Program} {l : Launch} {e : Env} {s : State} {m : MethodId} {args : Array Value} {below : List Frame} {meth : Method} {c : Code} {G : GT} {q : Nat → Nat} {C : St} {out : Int64} (bx : BX p RX6 wsX6_completionsByAll cX6_completionsByAll 5 (some .long) s m args meth c) (hP : va_P G.1 vwCl (CW G q C) s.heap) (hK : CK G s) {k13 : St → Int64 → Int32 → Int32 → Option (Int64)} (hk13 : ∀ (x1 : Int64) (x3 : Int32) (x4 : Int32), k13 C x1 x3 x4 = some out → ∀ (ls : Array Slot), lv_has ls 5 [(0, .ref (q 0)), (1, .long x1), (3, .int x3), (4, .int x4)] → GoL p l e rmX6_completionsByAll s m args below meth c out (F0 m 13 ls [])) (x1 : Int64) (x3 : Int32) (x4 : Int32) (h : pX6_completionsByAll_13_b k13 C x1 x3 x4 = some out) (ls : Array Slot) (hl : lv_has ls 5 [(0, .ref (q 0)), (1, .long x1), (3, .int x3), (4, .int x4)]) : GoL p l e rmX6_completionsByAll s m args below meth c out (F0 m 13 ls []) := by
  obtain ⟨hx, hb, hr, hts, hown, hml, hlocks⟩ := id bx
  unfold pX6_completionsByAll_13_b at h
  refine lv_iload hx hb dX6_completionsByAll_13 (lv_at hl 3 rfl) ?_
  refine lv_iload_n hx hb dX6_completionsByAll_15 rfl (lv_at hl 2 rfl) ?_
  refine lv_icmp_gt (tgt := 38) hx hb dX6_completionsByAll_16 (by decide) (fun c_16 => ?_) (fun c_16 => ?_)
  · have h := br_T h c_16
    refine lv_lload_n hx hb dX6_completionsByAll_38 rfl (lv_at hl 1 rfl) ?_
    exact GoL.end hx hb hr hlocks dX6_completionsByAll_39 h
  · have h := br_F h c_16
    refine lv_aload_n hx hb dX6_completionsByAll_19 rfl (lv_at hl 0 rfl) ?_
    refine lv_iload hx hb dX6_completionsByAll_20 (lv_at hl 3 rfl) ?_
    obtain ⟨r_2, hr_2, h⟩ := bd_ex h
    refine ro_i (va_runV (As := [.int x4]) (rest := []) ⟨hx, hb, hml, hown, hts⟩ (kX6_isCompletion l G q C x4 r_2 hr_2) (cwV 1 hts gX6_completionsByAll_X6_isCompletion rfl rfl rfl (by decide +kernel) ⟨Nat.le_of_ble_eq_true rfl, Nat.le_of_ble_eq_true rfl⟩) (roV hP hK 5 0 rfl rfl) rfl rfl hl.1 rfl (lv_room (Nat.le_of_ble_eq_true rfl)) dX6_completionsByAll_22 ⟨Nat.zero_le _, Nat.zero_le _⟩) ?_
    refine lv_if_eq (tgt := 32) hx hb dX6_completionsByAll_25 (by decide) (fun c_25 => ?_) (fun c_25 => ?_)
    · have h := br_T h c_25
      exact wX6_completionsByAll_32 bx hP hK hk13 x1 x3 x4 h _ (lv_sub hl [0, 1, 2, 3] rfl)
    · have h := br_F h c_25
      refine lv_lload_n hx hb dX6_completionsByAll_28 rfl (lv_at hl 1 rfl) ?_
      refine lv_lconst (v := 1) hx hb dX6_completionsByAll_29 (by decide) ?_
      refine lv_ladd hx hb dX6_completionsByAll_30 ?_
      refine lv_topl (fun v_4 ev_4 => ?_)
      have h := ltv_at h v_4 ev_4
      refine lv_lstore_n (lv' := [(1, .long v_4), (0, .ref (q 0)), (3, .int x3), (4, .int x4)]) hx hb dX6_completionsByAll_31 rfl hl (by decide) rfl (fun ls hl => ?_)
      exact wX6_completionsByAll_32 bx hP hK hk13 v_4 x3 x4 h _ (lv_sub hl [1, 0, 2, 3] rfl)

theorem wX6_completionsByAll_13 {p : Program} {l : Launch} {e : Env} {s : State} {m : MethodId} {args : Array Value} {below : List Frame} {meth : Method} {c : Code} {G : GT} {q : Nat → Nat} {C : St} {out : Int64} (bx : BX p RX6 wsX6_completionsByAll cX6_completionsByAll 5 (some .long) s m args meth c) (hP : va_P G.1 vwCl (CW G q C) s.heap) (hK : CK G s) :
    ∀ (n : Nat) (x1 : Int64) (x3 : Int32) (x4 : Int32), pX6_completionsByAll_13 n C x1 x3 x4 = some out → ∀ (ls : Array Slot), lv_has ls 5 [(0, .ref (q 0)), (1, .long x1), (3, .int x3), (4, .int x4)] → GoL p l e rmX6_completionsByAll s m args below meth c out (F0 m 13 ls []) := by
  intro n
  induction n with
  | zero => intro _ _ _ h; cases h
  | succ n ih => exact fun a0 a1 a2 h ls hl => wX6_completionsByAll_13_b bx hP hK ih a0 a1 a2 h ls hl

set_option maxHeartbeats 4000000 in
set_option maxRecDepth 100000 in
theorem kX6_completionsByAll (l : Launch) (G : GT) (q : Nat → Nat) (C : St) (r : Int64) (h : pX6_completionsByAll C = some r) : Met l yX6_completionsByAll wsX6_completionsByAll rmX6_completionsByAll (va_Pc [.ref (q 0)] (roP G (CW G q C))) (vp_Sl (fun v => v = r)) 0 0 (fun _ => False) := by
  refine Met.ofW (cc := cX6_completionsByAll) (maxL := 5) (ret := (some .long)) (by decide) rfl ?_
  intro p e s m args below meth c s₁ B hml hv
  obtain ⟨rfl, hP, hK⟩ := hv
  have bx := bx_of B hml
  obtain ⟨hx, hb, hr, hts, hown, hml, hlocks⟩ := id bx
  have hl := lv_entry ([.ref (q 0)]) (n := 5) (Nat.le_of_ble_eq_true rfl)
  rw [lg_entry_eq]
  generalize (lg_sl ([.ref (q 0)]) ++ List.replicate (5 - (lg_sl ([.ref (q 0)])).length) Slot.unset).toArray = ls at hl ⊢
  have hl : lv_has ls 5 [(0, .ref (q 0))] := hl
  show GoL p l e rmX6_completionsByAll s m _ below meth c r (F0 m 0 ls [])
  unfold pX6_completionsByAll at h
  refine lv_lconst (v := 0) hx hb dX6_completionsByAll_0 (by decide) ?_
  refine lv_lstore_n (lv' := [(1, .long 0), (0, .ref (q 0))]) hx hb dX6_completionsByAll_1 rfl hl (by decide) rfl (fun ls hl => ?_)
  refine lv_aload_n hx hb dX6_completionsByAll_2 rfl (lv_at hl 1 rfl) ?_
  refine va_get (D := G.1) (ci := 5) (v := .ref (q 1)) (C := RX6) (T := TX6) (N := 7) hx hb hts in_wsX6_completionsByAll_X6 hown hK.1 hP 0 rfl rfl 0 (by decide) (w_mem hts 1 rfl) (fun _ h9 => h9) rfl dX6_completionsByAll_3 ?_
  obtain ⟨r_1, hr_1, h⟩ := bd_ex h
  refine ro_i (va_runVN (As := []) (rest := []) ⟨hx, hb, hml, hown, hts⟩ (kX5_allFeatures l G q C r_1 hr_1) ⟨va_cnB 0 hts gX6_completionsByAll_X5_allFeatures_n200 rfl rfl rfl (hK.2.nw 9 rfl) (w_mem hts 3 rfl) (by decide +kernel) ⟨Nat.le_of_ble_eq_true rfl, Nat.le_of_ble_eq_true rfl⟩, (w_mem hts 2 rfl), (w_mem hts 4 rfl)⟩ (roV hP hK 4 1 rfl rfl) rfl rfl hl.1 rfl (lv_room (Nat.le_of_ble_eq_true rfl)) dX6_completionsByAll_6 ⟨Nat.zero_le _, Nat.zero_le _⟩) ?_
  refine lv_istore_n (lv' := [(3, .int r_1), (1, .long 0), (0, .ref (q 0))]) hx hb dX6_completionsByAll_9 rfl hl (by decide) rfl (fun ls hl => ?_)
  refine lv_iconst (v := 0) hx hb dX6_completionsByAll_10 (by decide) ?_
  refine lv_istore (lv' := [(4, .int 0), (3, .int r_1), (1, .long 0), (0, .ref (q 0))]) hx hb dX6_completionsByAll_11 hl (by decide) rfl (fun ls hl => ?_)
  exact wX6_completionsByAll_13 bx hP hK FU 0 r_1 0 h _ (lv_sub hl [3, 2, 1, 0] rfl)
