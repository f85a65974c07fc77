def rmX6_choose : Room := { frames := 17, cells := 0, slots := 0, locals := 434 }

theorem in_wsX6_choose_X6 : ∀ w ∈ u_ws RX6 TX6 7, w ∈ wsX6_choose := by decide +kernel

set_option maxHeartbeats 4000000 in
set_option maxRecDepth 100000 in
theorem kX6_choose (l : Launch) (G : GT) (q : Nat → Nat) (C : St) (sz : Nat) (x1 : Int32) (r : Int32 × St) (h : pX6_choose C x1 = some (.inr r)) : Met l yX6_choose wsX6_choose rmX6_choose (va_Pc [.ref (q 0), .int x1] (wrP G (CW G q C) sz)) (va_Qi (fun v u => (v, u) = r) (fun u t => va_P G.1 vwCl (CW G q u) t.heap) (va_A (CW G q C) sz)) 0 0 (va_A (CW G q C) sz) := by
  refine Met.ofW (cc := cX6_choose) (maxL := 3) (ret := (some .int)) (by decide) rfl ?_
  intro p e s m args below meth c s₁ B hml hv
  obtain ⟨rfl, hsz, hP, hK, hD0⟩ := hv
  have bx := bx_of B hml
  subst hsz
  have hD := hD0.self (sz := s.heap.size)
  generalize hAe : va_A (CW G q C) s.heap.size = A at hD ⊢
  have hA : ∀ q : Nat, s.heap.size ≤ q → A q := fun q h => by rw [← hAe]; exact Or.inr h
  have hS : va_S A s.heap s.heap [] := va_S.rf
  obtain ⟨hx, hb, hr, hts, hown, hml, hlocks⟩ := id bx
  have hl := lv_entry ([.ref (q 0), .int x1]) (n := 3) (Nat.le_of_ble_eq_true rfl)
  rw [lg_entry_eq]
  generalize (lg_sl ([.ref (q 0), .int x1]) ++ List.replicate (3 - (lg_sl ([.ref (q 0), .int x1])).length) Slot.unset).toArray = ls at hl ⊢
  have hl : lv_has ls 3 [(0, .ref (q 0)), (1, .int x1)] := hl
  show W p l e rmX6_choose s m _ below meth c s.heap [] 0 0 (MQi G (CW G q) A s _ below r) (F0 m 0 ls [])
  unfold pX6_choose at h
  refine lv_aload_n hx hb dX6_choose_0 rfl (lv_at hl 0 rfl) ?_
  refine lv_iload_n hx hb dX6_choose_1 rfl (lv_at hl 1 rfl) ?_
  obtain ⟨r_1, hr_1, h⟩ := tb_N h
  refine ro_v (va_runV (As := [.int x1]) (rest := []) ⟨hx, hb, hml, hown, hts⟩ (kX6_checkDecidable l G q C x1 r_1 hr_1) (cwV 1 hts gX6_choose_X6_checkDecidable rfl rfl rfl (by decide +kernel) ⟨Nat.le_of_ble_eq_true rfl, Nat.le_of_ble_eq_true rfl⟩) (roV hP hK 7 0 rfl rfl) rfl rfl hl.1 rfl (lv_room (Nat.le_of_ble_eq_true rfl)) dX6_choose_2 ⟨Nat.zero_le _, Nat.zero_le _⟩) ?_
  refine lv_iconst (v := 1) hx hb dX6_choose_5 (by decide) ?_
  refine lv_iload_n hx hb dX6_choose_6 rfl (lv_at hl 1 rfl) ?_
  refine lv_ishl hx hb dX6_choose_7 ?_
  refine lv_topi (fun v_2 ev_2 => ?_)
  have h := ltv_at h v_2 ev_2
  refine lv_istore_n (lv' := [(2, .int v_2), (0, .ref (q 0)), (1, .int x1)]) hx hb dX6_choose_8 rfl hl (by decide) rfl (fun ls hl => ?_)
  refine lv_aload_n hx hb dX6_choose_9 rfl (lv_at hl 1 rfl) ?_
  refine va_get (D := G.1) (ci := 7) (v := .ref (q 1)) (C := RX6) (T := TX6) (N := 7) hx hb hts in_wsX6_choose_X6 hown hK.1 hP 0 rfl rfl 0 (by decide) (w_mem hts 3 rfl) (fun _ h9 => h9) rfl dX6_choose_10 ?_
  refine lv_aload_n hx hb dX6_choose_13 rfl (lv_at hl 1 rfl) ?_
  refine va_get (D := G.1) (ci := 7) (v := .ref (q 2)) (C := RX6) (T := TX6) (N := 7) hx hb hts in_wsX6_choose_X6 hown hK.1 hP 0 rfl rfl 1 (by decide) (w_mem hts 4 rfl) (fun _ h9 => h9) rfl dX6_choose_14 ?_
  refine lv_iconst (v := 0) hx hb dX6_choose_17 (by decide) ?_
  refine lv_iconst (v := 0) hx hb dX6_choose_18 (by decide) ?_
  refine lv_aload_n hx hb dX6_choose_19 rfl (lv_at hl 1 rfl) ?_
  refine va_get (D := G.1) (ci := 7) (v := .int (C.1 0)) (C := RX6) (T := TX6) (N := 7) hx hb hts in_wsX6_choose_X6 hown hK.1 hP 0 rfl rfl 5 (by decide) (w_mem hts 5 rfl) (fun _ h9 => h9) rfl dX6_choose_20 ?_
  refine lv_iload_n hx hb dX6_choose_23 rfl (lv_at hl 0 rfl) ?_
  refine lv_ior hx hb dX6_choose_24 ?_
  refine lv_aload_n hx hb dX6_choose_25 rfl (lv_at hl 1 rfl) ?_
  refine va_get (D := G.1) (ci := 7) (v := .int (C.1 1)) (C := RX6) (T := TX6) (N := 7) hx hb hts in_wsX6_choose_X6 hown hK.1 hP 0 rfl rfl 6 (by decide) (w_mem hts 6 rfl) (fun _ h9 => h9) rfl dX6_choose_26 ?_
  obtain ⟨r_3, hr_3, h⟩ := bd_ex h
  refine ro_i (va_runSN (As := [.ref (q 1), .ref (q 2), .int 0, .int 0, .int ((C.1 0) ||| v_2), .int (C.1 1)]) (rest := []) ⟨hx, hb, hml, hown, hts⟩ (kX4_reaches l RU G q C 0 0 ((C.1 0) ||| v_2) (C.1 1) r_3 hr_3) ⟨va_cnB 6 hts gX6_choose_X4_reaches_n141 rfl rfl rfl (hK.2.nw 7 rfl) (w_mem hts 30 rfl) (by decide +kernel) ⟨Nat.le_of_ble_eq_true rfl, Nat.le_of_ble_eq_true rfl⟩, (w_mem hts 29 rfl), trivial⟩ (roS hP hK) rfl rfl hl.1 rfl (lv_room (Nat.le_of_ble_eq_true rfl)) dX6_choose_29 ⟨Nat.zero_le _, Nat.zero_le _⟩) ?_
  refine lv_if_ne (tgt := 45) hx hb dX6_choose_32 (by decide) (fun c_32 => ?_) (fun c_32 => ?_)
  · have h := br_F h c_32
    refine lv_aload_n hx hb dX6_choose_45 rfl (lv_at hl 1 rfl) ?_
    refine lv_dup hx hb dX6_choose_46 rfl ?_
    refine va_get (D := G.1) (ci := 7) (v := .int (C.1 0)) (C := RX6) (T := TX6) (N := 7) hx hb hts in_wsX6_choose_X6 hown hK.1 hP 0 rfl rfl 5 (by decide) (w_mem hts 5 rfl) (fun _ h9 => h9) rfl dX6_choose_47 ?_
    refine lv_iload_n hx hb dX6_choose_50 rfl (lv_at hl 0 rfl) ?_
    refine lv_ior hx hb dX6_choose_51 ?_
    refine va_put (D := G.1) (ci := 7) (v := .int ((C.1 0) ||| v_2)) (ty := .int) (C := RX6) (T := TX6) (N := 7) hx hb hts in_wsX6_choose_X6 tyX6 tyX6_ok nmX6 hown hK.1 hP hD hS 0 rfl rfl 5 (by decide) (w_mem hts 5 rfl) (fun _ h9 => h9) rfl (by decide +kernel) rfl rfl (Nat.le_of_ble_eq_true rfl) dX6_choose_52 (fun H locs hP hD hS => ?_)
    have hP : va_P G.1 vwCl (CW G q (sS C 0 ((C.1 0) ||| v_2))) H := hP
    have hD : va_D A (CW G q (sS C 0 ((C.1 0) ||| v_2))) := hD
    obtain ⟨C_4, eC_4, h⟩ := ltv_ex h
    rw [← eC_4] at hP hD
    refine lv_aload_n hx hb dX6_choose_55 rfl (lv_at hl 1 rfl) ?_
    obtain ⟨u_5, hu_5, h⟩ := bd_ex h
    refine wr_i (Wd := CW G q) (va_runV (As := []) (rest := []) ⟨hx, hb, hml, hown, hts⟩ (kX6_countUnknown l G q C_4 _ u_5 hu_5) (cwV 0 hts gX6_choose_X6_countUnknown rfl rfl rfl (by decide +kernel) ⟨Nat.le_of_ble_eq_true rfl, Nat.le_of_ble_eq_true rfl⟩) (wrV hP hD hK 7 0 rfl rfl) rfl rfl hl.1 rfl (lv_room (Nat.le_of_ble_eq_true rfl)) dX6_choose_56 ⟨Nat.zero_le _, Nat.zero_le _⟩) hD hS hA (fun _ => rfl) (fun H locs hP hD hS => ?_)
    exact MQi.end hx hb hr hlocks hP hS dX6_choose_59 rfl (nn_ h)
  · have h := br_T h c_32
    cases h

def rxX6_choose : Room := { frames := 17, cells := 1, slots := 6, locals := 434 }

set_option maxHeartbeats 4000000 in
set_option maxRecDepth 100000 in
theorem xX6_choose (l : Launch) (hl0 : l.stackTraces = false) (G : GT) (q : Nat → Nat) (C : St) (sz : Nat) (x1 : Int32) (r : Nat × St) (h : pX6_choose C x1 = some (.inl r)) : vx_Met l yX6_choose wsX6_choose rxX6_choose (va_Pc [.ref (q 0), .int x1] (xP G (CW G q C) sz)) (fun _ _ _ _ => False) (XCf G (CW G q) (va_A (CW G q C) sz) r) 1 6 (va_A (CW G q C) sz) := by
  refine vx_ofW (cc := cX6_choose) (maxL := 3) (ret := (some .int)) (by decide) rfl ?_
  intro p e s m args below meth c s₁ B hml hex hv
  obtain ⟨rfl, ⟨hsz, hP, hK, hD0⟩, hE⟩ := hv
  have bx := bx_of B hml
  subst hsz
  have hD := hD0.self (sz := s.heap.size)
  generalize hAe : va_A (CW G q C) s.heap.size = A at hD hE ⊢
  have hA : ∀ q : Nat, s.heap.size ≤ q → A q := fun q h => by rw [← hAe]; exact Or.inr h
  have hS : va_S A s.heap s.heap [] := va_S.rf
  obtain ⟨hx, hb, hr, hts, hown, hml, hlocks⟩ := id bx
  have hl := lv_entry ([.ref (q 0), .int x1]) (n := 3) (Nat.le_of_ble_eq_true rfl)
  rw [lg_entry_eq]
  generalize (lg_sl ([.ref (q 0), .int x1]) ++ List.replicate (3 - (lg_sl ([.ref (q 0), .int x1])).length) Slot.unset).toArray = ls at hl ⊢
  have hl : lv_has ls 3 [(0, .ref (q 0)), (1, .int x1)] := hl
  show W p l e rxX6_choose s m _ below meth c s.heap [] 0 0 (MQx G (CW G q) A s _ below r) (F0 m 0 ls [])
  unfold pX6_choose at h
  refine lv_aload_n hx hb dX6_choose_0 rfl (lv_at hl 0 rfl) ?_
  refine lv_iload_n hx hb dX6_choose_1 rfl (lv_at hl 1 rfl) ?_
  rcases tb_X h with ⟨er_1, hr_1, h⟩ | ⟨r_1, hr_1, h⟩
  · exact x_prop (Wd := CW G q) (vx_runV (As := [.int x1]) (rest := []) ⟨hx, hb, hml, hown, hts⟩ (xX6_checkDecidable l hl0 G q C _ x1 er_1 hr_1) (cwV 1 hts gX6_choose_X6_checkDecidable rfl rfl rfl (by decide +kernel) ⟨Nat.le_of_ble_eq_true rfl, Nat.le_of_ble_eq_true rfl⟩) (xV hP hD hS hK hA hE 7 0 rfl rfl) rfl rfl hl.1 rfl (lv_room (Nat.le_of_ble_eq_true rfl)) dX6_choose_2 ⟨Nat.le_of_ble_eq_true rfl, Nat.le_of_ble_eq_true rfl⟩) hD hS hA (fun _ => rfl) hex hlocks h
  refine ro_v (va_runV (As := [.int x1]) (rest := []) ⟨hx, hb, hml, hown, hts⟩ (kX6_checkDecidable l G q C x1 r_1 hr_1) (cwV 1 hts gX6_choose_X6_checkDecidable rfl rfl rfl (by decide +kernel) ⟨Nat.le_of_ble_eq_true rfl, Nat.le_of_ble_eq_true rfl⟩) (roV hP hK 7 0 rfl rfl) rfl rfl hl.1 rfl (lv_room (Nat.le_of_ble_eq_true rfl)) dX6_choose_2 ⟨Nat.zero_le _, Nat.zero_le _⟩) ?_
  refine lv_iconst (v := 1) hx hb dX6_choose_5 (by decide) ?_
  refine lv_iload_n hx hb dX6_choose_6 rfl (lv_at hl 1 rfl) ?_
  refine lv_ishl hx hb dX6_choose_7 ?_
  refine lv_topi (fun v_2 ev_2 => ?_)
  have h := ltv_at h v_2 ev_2
  refine lv_istore_n (lv' := [(2, .int v_2), (0, .ref (q 0)), (1, .int x1)]) hx hb dX6_choose_8 rfl hl (by decide) rfl (fun ls hl => ?_)
  refine lv_aload_n hx hb dX6_choose_9 rfl (lv_at hl 1 rfl) ?_
  refine va_get (D := G.1) (ci := 7) (v := .ref (q 1)) (C := RX6) (T := TX6) (N := 7) hx hb hts in_wsX6_choose_X6 hown hK.1 hP 0 rfl rfl 0 (by decide) (w_mem hts 3 rfl) (fun _ h9 => h9) rfl dX6_choose_10 ?_
  refine lv_aload_n hx hb dX6_choose_13 rfl (lv_at hl 1 rfl) ?_
  refine va_get (D := G.1) (ci := 7) (v := .ref (q 2)) (C := RX6) (T := TX6) (N := 7) hx hb hts in_wsX6_choose_X6 hown hK.1 hP 0 rfl rfl 1 (by decide) (w_mem hts 4 rfl) (fun _ h9 => h9) rfl dX6_choose_14 ?_
  refine lv_iconst (v := 0) hx hb dX6_choose_17 (by decide) ?_
  refine lv_iconst (v := 0) hx hb dX6_choose_18 (by decide) ?_
  refine lv_aload_n hx hb dX6_choose_19 rfl (lv_at hl 1 rfl) ?_
  refine va_get (D := G.1) (ci := 7) (v := .int (C.1 0)) (C := RX6) (T := TX6) (N := 7) hx hb hts in_wsX6_choose_X6 hown hK.1 hP 0 rfl rfl 5 (by decide) (w_mem hts 5 rfl) (fun _ h9 => h9) rfl dX6_choose_20 ?_
  refine lv_iload_n hx hb dX6_choose_23 rfl (lv_at hl 0 rfl) ?_
  refine lv_ior hx hb dX6_choose_24 ?_
  refine lv_aload_n hx hb dX6_choose_25 rfl (lv_at hl 1 rfl) ?_
  refine va_get (D := G.1) (ci := 7) (v := .int (C.1 1)) (C := RX6) (T := TX6) (N := 7) hx hb hts in_wsX6_choose_X6 hown hK.1 hP 0 rfl rfl 6 (by decide) (w_mem hts 6 rfl) (fun _ h9 => h9) rfl dX6_choose_26 ?_
  obtain ⟨r_3, hr_3, h⟩ := bd_ex h
  refine ro_i (va_runSN (As := [.ref (q 1), .ref (q 2), .int 0, .int 0, .int ((C.1 0) ||| v_2), .int (C.1 1)]) (rest := []) ⟨hx, hb, hml, hown, hts⟩ (kX4_reaches l RU G q C 0 0 ((C.1 0) ||| v_2) (C.1 1) r_3 hr_3) ⟨va_cnB 6 hts gX6_choose_X4_reaches_n141 rfl rfl rfl (hK.2.nw 7 rfl) (w_mem hts 30 rfl) (by decide +kernel) ⟨Nat.le_of_ble_eq_true rfl, Nat.le_of_ble_eq_true rfl⟩, (w_mem hts 29 rfl), trivial⟩ (roS hP hK) rfl rfl hl.1 rfl (lv_room (Nat.le_of_ble_eq_true rfl)) dX6_choose_29 ⟨Nat.zero_le _, Nat.zero_le _⟩) ?_
  refine lv_if_ne (tgt := 45) hx hb dX6_choose_32 (by decide) (fun c_32 => ?_) (fun c_32 => ?_)
  · have h := br_F h c_32
    refine lv_aload_n hx hb dX6_choose_45 rfl (lv_at hl 1 rfl) ?_
    refine lv_dup hx hb dX6_choose_46 rfl ?_
    refine va_get (D := G.1) (ci := 7) (v := .int (C.1 0)) (C := RX6) (T := TX6) (N := 7) hx hb hts in_wsX6_choose_X6 hown hK.1 hP 0 rfl rfl 5 (by decide) (w_mem hts 5 rfl) (fun _ h9 => h9) rfl dX6_choose_47 ?_
    refine lv_iload_n hx hb dX6_choose_50 rfl (lv_at hl 0 rfl) ?_
    refine lv_ior hx hb dX6_choose_51 ?_
    refine va_put (D := G.1) (ci := 7) (v := .int ((C.1 0) ||| v_2)) (ty := .int) (C := RX6) (T := TX6) (N := 7) hx hb hts in_wsX6_choose_X6 tyX6 tyX6_ok nmX6 hown hK.1 hP hD hS 0 rfl rfl 5 (by decide) (w_mem hts 5 rfl) (fun _ h9 => h9) rfl (by decide +kernel) rfl rfl (Nat.le_of_ble_eq_true rfl) dX6_choose_52 (fun H locs hP hD hS => ?_)
    have hP : va_P G.1 vwCl (CW G q (sS C 0 ((C.1 0) ||| v_2))) H := hP
    have hD : va_D A (CW G q (sS C 0 ((C.1 0) ||| v_2))) := hD
    obtain ⟨C_4, eC_4, h⟩ := ltv_ex h
    rw [← eC_4] at hP hD
    refine lv_aload_n hx hb dX6_choose_55 rfl (lv_at hl 1 rfl) ?_
    obtain ⟨u_5, hu_5, h⟩ := bd_ex h
    refine wr_i (Wd := CW G q) (va_runV (As := []) (rest := []) ⟨hx, hb, hml, hown, hts⟩ (kX6_countUnknown l G q C_4 _ u_5 hu_5) (cwV 0 hts gX6_choose_X6_countUnknown rfl rfl rfl (by decide +kernel) ⟨Nat.le_of_ble_eq_true rfl, Nat.le_of_ble_eq_true rfl⟩) (wrV hP hD hK 7 0 rfl rfl) rfl rfl hl.1 rfl (lv_room (Nat.le_of_ble_eq_true rfl)) dX6_choose_56 ⟨Nat.zero_le _, Nat.zero_le _⟩) hD hS hA (fun _ => rfl) (fun H locs hP hD hS => ?_)
    cases h
  · have h := br_T h c_32
    exact x_throwS (Wd := CW G q) (C := C) (k := 4) (cls := "java/lang/UnsupportedOperationException") (text := "there would be no completion") hx hb hl0 hts hown hml hlocks hex hK hE hP hS hl (by decide +kernel) (w_mem hts 1 rfl) (w_mem hts 2 rfl) (List.mem_of_getElem? (i := 2) rfl) (fun w h => List.mem_cons_of_mem _ (List.mem_append_left _ (List.mem_append_left _ (List.mem_append_left _ (List.mem_append_right _ h))))) xB_86 xG_86_82 dX6_choose_35 dX6_choose_38 dX6_choose_39 dX6_choose_41 dX6_choose_44 ⟨Nat.le_of_ble_eq_true rfl, Nat.le_of_ble_eq_true rfl, Nat.le_of_ble_eq_true rfl, Nat.le_of_ble_eq_true rfl⟩ ((xl_ h).symm) rfl

def rmX6_refuse : Room := { frames := 17, cells := 0, slots := 0, locals := 434 }

theorem in_wsX6_refuse_X6 : ∀ w ∈ u_ws RX6 TX6 7, w ∈ wsX6_refuse := by decide +kernel

set_option maxHeartbeats 4000000 in
set_option maxRecDepth 100000 in
theorem kX6_refuse (l : Launch) (G : GT) (q : Nat → Nat) (C : St) (sz : Nat) (x1 : Int32) (r : Int32 × St) (h : pX6_refuse C x1 = some (.inr r)) : Met l yX6_refuse wsX6_refuse rmX6_refuse (va_Pc [.ref (q 0), .int x1] (wrP G (CW G q C) sz)) (va_Qi (fun v u => (v, u) = r) (fun u t => va_P G.1 vwCl (CW G q u) t.heap) (va_A (CW G q C) sz)) 0 0 (va_A (CW G q C) sz) := by
  refine Met.ofW (cc := cX6_refuse) (maxL := 3) (ret := (some .int)) (by decide) rfl ?_
  intro p e s m args below meth c s₁ B hml hv
  obtain ⟨rfl, hsz, hP, hK, hD0⟩ := hv
  have bx := bx_of B hml
  subst hsz
  have hD := hD0.self (sz := s.heap.size)
  generalize hAe : va_A (CW G q C) s.heap.size = A at hD ⊢
  have hA : ∀ q : Nat, s.heap.size ≤ q → A q := fun q h => by rw [← hAe]; exact Or.inr h
  have hS : va_S A s.heap s.heap [] := va_S.rf
  obtain ⟨hx, hb, hr, hts, hown, hml, hlocks⟩ := id bx
  have hl := lv_entry ([.ref (q 0), .int x1]) (n := 3) (Nat.le_of_ble_eq_true rfl)
  rw [lg_entry_eq]
  generalize (lg_sl ([.ref (q 0), .int x1]) ++ List.replicate (3 - (lg_sl ([.ref (q 0), .int x1])).length) Slot.unset).toArray = ls at hl ⊢
  have hl : lv_has ls 3 [(0, .ref (q 0)), (1, .int x1)] := hl
  show W p l e rmX6_refuse s m _ below meth c s.heap [] 0 0 (MQi G (CW G q) A s _ below r) (F0 m 0 ls [])
  unfold pX6_refuse at h
  refine lv_aload_n hx hb dX6_refuse_0 rfl (lv_at hl 0 rfl) ?_
  refine lv_iload_n hx hb dX6_refuse_1 rfl (lv_at hl 1 rfl) ?_
  obtain ⟨r_1, hr_1, h⟩ := tb_N h
  refine ro_v (va_runV (As := [.int x1]) (rest := []) ⟨hx, hb, hml, hown, hts⟩ (kX6_checkDecidable l G q C x1 r_1 hr_1) (cwV 1 hts gX6_refuse_X6_checkDecidable rfl rfl rfl (by decide +kernel) ⟨Nat.le_of_ble_eq_true rfl, Nat.le_of_ble_eq_true rfl⟩) (roV hP hK 7 0 rfl rfl) rfl rfl hl.1 rfl (lv_room (Nat.le_of_ble_eq_true rfl)) dX6_refuse_2 ⟨Nat.zero_le _, Nat.zero_le _⟩) ?_
  refine lv_iconst (v := 1) hx hb dX6_refuse_5 (by decide) ?_
  refine lv_iload_n hx hb dX6_refuse_6 rfl (lv_at hl 1 rfl) ?_
  refine lv_ishl hx hb dX6_refuse_7 ?_
  refine lv_topi (fun v_2 ev_2 => ?_)
  have h := ltv_at h v_2 ev_2
  refine lv_istore_n (lv' := [(2, .int v_2), (0, .ref (q 0)), (1, .int x1)]) hx hb dX6_refuse_8 rfl hl (by decide) rfl (fun ls hl => ?_)
  refine lv_aload_n hx hb dX6_refuse_9 rfl (lv_at hl 1 rfl) ?_
  refine va_get (D := G.1) (ci := 7) (v := .ref (q 1)) (C := RX6) (T := TX6) (N := 7) hx hb hts in_wsX6_refuse_X6 hown hK.1 hP 0 rfl rfl 0 (by decide) (w_mem hts 3 rfl) (fun _ h9 => h9) rfl dX6_refuse_10 ?_
  refine lv_aload_n hx hb dX6_refuse_13 rfl (lv_at hl 1 rfl) ?_
  refine va_get (D := G.1) (ci := 7) (v := .ref (q 2)) (C := RX6) (T := TX6) (N := 7) hx hb hts in_wsX6_refuse_X6 hown hK.1 hP 0 rfl rfl 1 (by decide) (w_mem hts 4 rfl) (fun _ h9 => h9) rfl dX6_refuse_14 ?_
  refine lv_iconst (v := 0) hx hb dX6_refuse_17 (by decide) ?_
  refine lv_iconst (v := 0) hx hb dX6_refuse_18 (by decide) ?_
  refine lv_aload_n hx hb dX6_refuse_19 rfl (lv_at hl 1 rfl) ?_
  refine va_get (D := G.1) (ci := 7) (v := .int (C.1 0)) (C := RX6) (T := TX6) (N := 7) hx hb hts in_wsX6_refuse_X6 hown hK.1 hP 0 rfl rfl 5 (by decide) (w_mem hts 5 rfl) (fun _ h9 => h9) rfl dX6_refuse_20 ?_
  refine lv_aload_n hx hb dX6_refuse_23 rfl (lv_at hl 1 rfl) ?_
  refine va_get (D := G.1) (ci := 7) (v := .int (C.1 1)) (C := RX6) (T := TX6) (N := 7) hx hb hts in_wsX6_refuse_X6 hown hK.1 hP 0 rfl rfl 6 (by decide) (w_mem hts 6 rfl) (fun _ h9 => h9) rfl dX6_refuse_24 ?_
  refine lv_iload_n hx hb dX6_refuse_27 rfl (lv_at hl 0 rfl) ?_
  refine lv_ior hx hb dX6_refuse_28 ?_
  obtain ⟨r_3, hr_3, h⟩ := bd_ex h
  refine ro_i (va_runSN (As := [.ref (q 1), .ref (q 2), .int 0, .int 0, .int (C.1 0), .int ((C.1 1) ||| v_2)]) (rest := []) ⟨hx, hb, hml, hown, hts⟩ (kX4_reaches l RU G q C 0 0 (C.1 0) ((C.1 1) ||| v_2) r_3 hr_3) ⟨va_cnB 6 hts gX6_refuse_X4_reaches_n141 rfl rfl rfl (hK.2.nw 7 rfl) (w_mem hts 30 rfl) (by decide +kernel) ⟨Nat.le_of_ble_eq_true rfl, Nat.le_of_ble_eq_true rfl⟩, (w_mem hts 29 rfl), trivial⟩ (roS hP hK) rfl rfl hl.1 rfl (lv_room (Nat.le_of_ble_eq_true rfl)) dX6_refuse_29 ⟨Nat.zero_le _, Nat.zero_le _⟩) ?_
  refine lv_if_ne (tgt := 45) hx hb dX6_refuse_32 (by decide) (fun c_32 => ?_) (fun c_32 => ?_)
  · have h := br_F h c_32
    refine lv_aload_n hx hb dX6_refuse_45 rfl (lv_at hl 1 rfl) ?_
    refine lv_dup hx hb dX6_refuse_46 rfl ?_
    refine va_get (D := G.1) (ci := 7) (v := .int (C.1 1)) (C := RX6) (T := TX6) (N := 7) hx hb hts in_wsX6_refuse_X6 hown hK.1 hP 0 rfl rfl 6 (by decide) (w_mem hts 6 rfl) (fun _ h9 => h9) rfl dX6_refuse_47 ?_
    refine lv_iload_n hx hb dX6_refuse_50 rfl (lv_at hl 0 rfl) ?_
    refine lv_ior hx hb dX6_refuse_51 ?_
    refine va_put (D := G.1) (ci := 7) (v := .int ((C.1 1) ||| v_2)) (ty := .int) (C := RX6) (T := TX6) (N := 7) hx hb hts in_wsX6_refuse_X6 tyX6 tyX6_ok nmX6 hown hK.1 hP hD hS 0 rfl rfl 6 (by decide) (w_mem hts 6 rfl) (fun _ h9 => h9) rfl (by decide +kernel) rfl rfl (Nat.le_of_ble_eq_true rfl) dX6_refuse_52 (fun H locs hP hD hS => ?_)
    have hP : va_P G.1 vwCl (CW G q (sS C 1 ((C.1 1) ||| v_2))) H := hP
    have hD : va_D A (CW G q (sS C 1 ((C.1 1) ||| v_2))) := hD
    obtain ⟨C_4, eC_4, h⟩ := ltv_ex h
    rw [← eC_4] at hP hD
    refine lv_aload_n hx hb dX6_refuse_55 rfl (lv_at hl 1 rfl) ?_
    obtain ⟨u_5, hu_5, h⟩ := bd_ex h
    refine wr_i (Wd := CW G q) (va_runV (As := []) (rest := []) ⟨hx, hb, hml, hown, hts⟩ (kX6_countUnknown l G q C_4 _ u_5 hu_5) (cwV 0 hts gX6_refuse_X6_countUnknown rfl rfl rfl (by decide +kernel) ⟨Nat.le_of_ble_eq_true rfl, Nat.le_of_ble_eq_true rfl⟩) (wrV hP hD hK 7 0 rfl rfl) rfl rfl hl.1 rfl (lv_room (Nat.le_of_ble_eq_true rfl)) dX6_refuse_56 ⟨Nat.zero_le _, Nat.zero_le _⟩) hD hS hA (fun _ => rfl) (fun H locs hP hD hS => ?_)
    exact MQi.end hx hb hr hlocks hP hS dX6_refuse_59 rfl (nn_ h)
  · have h := br_T h c_32
    cases h

def rxX6_refuse : Room := { frames := 17, cells := 1, slots := 6, locals := 434 }

set_option maxHeartbeats 4000000 in
set_option maxRecDepth 100000 in
theorem xX6_refuse (l : Launch) (hl0 : l.stackTraces = false) (G : GT) (q : Nat → Nat) (C : St) (sz : Nat) (x1 : Int32) (r : Nat × St) (h : pX6_refuse C x1 = some (.inl r)) : vx_Met l yX6_refuse wsX6_refuse rxX6_refuse (va_Pc [.ref (q 0), .int x1] (xP G (CW G q C) sz)) (fun _ _ _ _ => False) (XCf G (CW G q) (va_A (CW G q C) sz) r) 1 6 (va_A (CW G q C) sz) := by
  refine vx_ofW (cc := cX6_refuse) (maxL := 3) (ret := (some .int)) (by decide) rfl ?_
  intro p e s m args below meth c s₁ B hml hex hv
  obtain ⟨rfl, ⟨hsz, hP, hK, hD0⟩, hE⟩ := hv
  have bx := bx_of B hml
  subst hsz
  have hD := hD0.self (sz := s.heap.size)
  generalize hAe : va_A (CW G q C) s.heap.size = A at hD hE ⊢
  have hA : ∀ q : Nat, s.heap.size ≤ q → A q := fun q h => by rw [← hAe]; exact Or.inr h
  have hS : va_S A s.heap s.heap [] := va_S.rf
  obtain ⟨hx, hb, hr, hts, hown, hml, hlocks⟩ := id bx
  have hl := lv_entry ([.ref (q 0), .int x1]) (n := 3) (Nat.le_of_ble_eq_true rfl)
  rw [lg_entry_eq]
  generalize (lg_sl ([.ref (q 0), .int x1]) ++ List.replicate (3 - (lg_sl ([.ref (q 0), .int x1])).length) Slot.unset).toArray = ls at hl ⊢
  have hl : lv_has ls 3 [(0, .ref (q 0)), (1, .int x1)] := hl
  show W p l e rxX6_refuse s m _ below meth c s.heap [] 0 0 (MQx G (CW G q) A s _ below r) (F0 m 0 ls [])
  unfold pX6_refuse at h
  refine lv_aload_n hx hb dX6_refuse_0 rfl (lv_at hl 0 rfl) ?_
  refine lv_iload_n hx hb dX6_refuse_1 rfl (lv_at hl 1 rfl) ?_
  rcases tb_X h with ⟨er_1, hr_1, h⟩ | ⟨r_1, hr_1, h⟩
  · exact x_prop (Wd := CW G q) (vx_runV (As := [.int x1]) (rest := []) ⟨hx, hb, hml, hown, hts⟩ (xX6_checkDecidable l hl0 G q C _ x1 er_1 hr_1) (cwV 1 hts gX6_refuse_X6_checkDecidable rfl rfl rfl (by decide +kernel) ⟨Nat.le_of_ble_eq_true rfl, Nat.le_of_ble_eq_true rfl⟩) (xV hP hD hS hK hA hE 7 0 rfl rfl) rfl rfl hl.1 rfl (lv_room (Nat.le_of_ble_eq_true rfl)) dX6_refuse_2 ⟨Nat.le_of_ble_eq_true rfl, Nat.le_of_ble_eq_true rfl⟩) hD hS hA (fun _ => rfl) hex hlocks h
  refine ro_v (va_runV (As := [.int x1]) (rest := []) ⟨hx, hb, hml, hown, hts⟩ (kX6_checkDecidable l G q C x1 r_1 hr_1) (cwV 1 hts gX6_refuse_X6_checkDecidable rfl rfl rfl (by decide +kernel) ⟨Nat.le_of_ble_eq_true rfl, Nat.le_of_ble_eq_true rfl⟩) (roV hP hK 7 0 rfl rfl) rfl rfl hl.1 rfl (lv_room (Nat.le_of_ble_eq_true rfl)) dX6_refuse_2 ⟨Nat.zero_le _, Nat.zero_le _⟩) ?_
  refine lv_iconst (v := 1) hx hb dX6_refuse_5 (by decide) ?_
  refine lv_iload_n hx hb dX6_refuse_6 rfl (lv_at hl 1 rfl) ?_
  refine lv_ishl hx hb dX6_refuse_7 ?_
  refine lv_topi (fun v_2 ev_2 => ?_)
  have h := ltv_at h v_2 ev_2
  refine lv_istore_n (lv' := [(2, .int v_2), (0, .ref (q 0)), (1, .int x1)]) hx hb dX6_refuse_8 rfl hl (by decide) rfl (fun ls hl => ?_)
  refine lv_aload_n hx hb dX6_refuse_9 rfl (lv_at hl 1 rfl) ?_
  refine va_get (D := G.1) (ci := 7) (v := .ref (q 1)) (C := RX6) (T := TX6) (N := 7) hx hb hts in_wsX6_refuse_X6 hown hK.1 hP 0 rfl rfl 0 (by decide) (w_mem hts 3 rfl) (fun _ h9 => h9) rfl dX6_refuse_10 ?_
  refine lv_aload_n hx hb dX6_refuse_13 rfl (lv_at hl 1 rfl) ?_
  refine va_get (D := G.1) (ci := 7) (v := .ref (q 2)) (C := RX6) (T := TX6) (N := 7) hx hb hts in_wsX6_refuse_X6 hown hK.1 hP 0 rfl rfl 1 (by decide) (w_mem hts 4 rfl) (fun _ h9 => h9) rfl dX6_refuse_14 ?_
  refine lv_iconst (v := 0) hx hb dX6_refuse_17 (by decide) ?_
  refine lv_iconst (v := 0) hx hb dX6_refuse_18 (by decide) ?_
  refine lv_aload_n hx hb dX6_refuse_19 rfl (lv_at hl 1 rfl) ?_
  refine va_get (D := G.1) (ci := 7) (v := .int (C.1 0)) (C := RX6) (T := TX6) (N := 7) hx hb hts in_wsX6_refuse_X6 hown hK.1 hP 0 rfl rfl 5 (by decide) (w_mem hts 5 rfl) (fun _ h9 => h9) rfl dX6_refuse_20 ?_
  refine lv_aload_n hx hb dX6_refuse_23 rfl (lv_at hl 1 rfl) ?_
  refine va_get (D := G.1) (ci := 7) (v := .int (C.1 1)) (C := RX6) (T := TX6) (N := 7) hx hb hts in_wsX6_refuse_X6 hown hK.1 hP 0 rfl rfl 6 (by decide) (w_mem hts 6 rfl) (fun _ h9 => h9) rfl dX6_refuse_24 ?_
  refine lv_iload_n hx hb dX6_refuse_27 rfl (lv_at hl 0 rfl) ?_
  refine lv_ior hx hb dX6_refuse_28 ?_
  obtain ⟨r_3, hr_3, h⟩ := bd_ex h
  refine ro_i (va_runSN (As := [.ref (q 1), .ref (q 2), .int 0, .int 0, .int (C.1 0), .int ((C.1 1) ||| v_2)]) (rest := []) ⟨hx, hb, hml, hown, hts⟩ (kX4_reaches l RU G q C 0 0 (C.1 0) ((C.1 1) ||| v_2) r_3 hr_3) ⟨va_cnB 6 hts gX6_refuse_X4_reaches_n141 rfl rfl rfl (hK.2.nw 7 rfl) (w_mem hts 30 rfl) (by decide +kernel) ⟨Nat.le_of_ble_eq_true rfl, Nat.le_of_ble_eq_true rfl⟩, (w_mem hts 29 rfl), trivial⟩ (roS hP hK) rfl rfl hl.1 rfl (lv_room (Nat.le_of_ble_eq_true rfl)) dX6_refuse_29 ⟨Nat.zero_le _, Nat.zero_le _⟩) ?_
  refine lv_if_ne (tgt := 45) hx hb dX6_refuse_32 (by decide) (fun c_32 => ?_) (fun c_32 => ?_)
  · have h := br_F h c_32
    refine lv_aload_n hx hb dX6_refuse_45 rfl (lv_at hl 1 rfl) ?_
    refine lv_dup hx hb dX6_refuse_46 rfl ?_
    refine va_get (D := G.1) (ci := 7) (v := .int (C.1 1)) (C := RX6) (T := TX6) (N := 7) hx hb hts in_wsX6_refuse_X6 hown hK.1 hP 0 rfl rfl 6 (by decide) (w_mem hts 6 rfl) (fun _ h9 => h9) rfl dX6_refuse_47 ?_
    refine lv_iload_n hx hb dX6_refuse_50 rfl (lv_at hl 0 rfl) ?_
    refine lv_ior hx hb dX6_refuse_51 ?_
    refine va_put (D := G.1) (ci := 7) (v := .int ((C.1 1) ||| v_2)) (ty := .int) (C := RX6) (T := TX6) (N := 7) hx hb hts in_wsX6_refuse_X6 tyX6 tyX6_ok nmX6 hown hK.1 hP hD hS 0 rfl rfl 6 (by decide) (w_mem hts 6 rfl) (fun _ h9 => h9) rfl (by decide +kernel) rfl rfl (Nat.le_of_ble_eq_true rfl) dX6_refuse_52 (fun H locs hP hD hS => ?_)
    have hP : va_P G.1 vwCl (CW G q (sS C 1 ((C.1 1) ||| v_2))) H := hP
    have hD : va_D A (CW G q (sS C 1 ((C.1 1) ||| v_2))) := hD
    obtain ⟨C_4, eC_4, h⟩ := ltv_ex h
    rw [← eC_4] at hP hD
    refine lv_aload_n hx hb dX6_refuse_55 rfl (lv_at hl 1 rfl) ?_
    obtain ⟨u_5, hu_5, h⟩ := bd_ex h
    refine wr_i (Wd := CW G q) (va_runV (As := []) (rest := []) ⟨hx, hb, hml, hown, hts⟩ (kX6_countUnknown l G q C_4 _ u_5 hu_5) (cwV 0 hts gX6_refuse_X6_countUnknown rfl rfl rfl (by decide +kernel) ⟨Nat.le_of_ble_eq_true rfl, Nat.le_of_ble_eq_true rfl⟩) (wrV hP hD hK 7 0 rfl rfl) rfl rfl hl.1 rfl (lv_room (Nat.le_of_ble_eq_true rfl)) dX6_refuse_56 ⟨Nat.zero_le _, Nat.zero_le _⟩) hD hS hA (fun _ => rfl) (fun H locs hP hD hS => ?_)
    cases h
  · have h := br_T h c_32
    exact x_throwS (Wd := CW G q) (C := C) (k := 4) (cls := "java/lang/UnsupportedOperationException") (text := "there would be no completion") hx hb hl0 hts hown hml hlocks hex hK hE hP hS hl (by decide +kernel) (w_mem hts 1 rfl) (w_mem hts 2 rfl) (List.mem_of_getElem? (i := 2) rfl) (fun w h => List.mem_cons_of_mem _ (List.mem_append_left _ (List.mem_append_left _ (List.mem_append_left _ (List.mem_append_right _ h))))) xB_86 xG_86_82 dX6_refuse_35 dX6_refuse_38 dX6_refuse_39 dX6_refuse_41 dX6_refuse_44 ⟨Nat.le_of_ble_eq_true rfl, Nat.le_of_ble_eq_true rfl, Nat.le_of_ble_eq_true rfl, Nat.le_of_ble_eq_true rfl⟩ ((xl_ h).symm) rfl

def rmX6_retract : Room := { frames := 1, cells := 0, slots := 0, locals := 21 }

theorem in_wsX6_retract_X6 : ∀ w ∈ u_ws RX6 TX6 7, w ∈ wsX6_retract := by decide +kernel

set_option maxHeartbeats 4000000 in
set_option maxRecDepth 100000 in
theorem wX6_retract_49 {p : Program} {l : Launch} {e : Env} {s : State} {m : MethodId} {args : Array Value} {below : List Frame} {meth : Method} {c : Code} {G : GT} {q : Nat → Nat} {A : Nat → Prop} {out : Int32 × St} (bx : BX p RX6 wsX6_retract cX6_retract 3 (some .char) s m args meth c) (hA : ∀ q : Nat, s.heap.size ≤ q → A q) (hK : CK G s) (C : St) (x1 : Int32) (t0 : Int32) (h : pX6_retract_49 C x1 t0 = some (.inr out)) {H : Heap} {locs : List Loc} (hP : va_P G.1 vwCl (CW G q C) H) (hD : va_D A (CW G q C)) (hS : va_S A s.heap H locs) (ls : Array Slot) (hl : lv_has ls 3 [(0, .ref (q 0)), (1, .int x1)]) : W p l e rmX6_retract s m args below meth c H locs 0 0 (MQi G (CW G q) A s args below out) (F0 m 49 ls [.int t0]) := by
  obtain ⟨hx, hb, hr, hts, hown, hml, hlocks⟩ := id bx
  unfold pX6_retract_49 at h
  refine lv_istore_n (lv' := [(2, .int t0), (0, .ref (q 0)), (1, .int x1)]) hx hb dX6_retract_49 rfl hl (by decide) rfl (fun ls hl => ?_)
  refine lv_aload_n hx hb dX6_retract_50 rfl (lv_at hl 1 rfl) ?_
  refine lv_iconst (v := 1) hx hb dX6_retract_51 (by decide) ?_
  refine lv_iload_n hx hb dX6_retract_52 rfl (lv_at hl 2 rfl) ?_
  refine lv_ishl hx hb dX6_retract_53 ?_
  obtain ⟨u_4, hu_4, h⟩ := bd_ex h
  refine wr_v (Wd := CW G q) (va_runV (As := [.int ((1 : Int32) <<< (x1 &&& 31))]) (rest := []) ⟨hx, hb, hml, hown, hts⟩ (kX6_takeBack l G q C _ ((1 : Int32) <<< (x1 &&& 31)) u_4 hu_4) (cwV 1 hts gX6_retract_X6_takeBack rfl rfl rfl (by decide +kernel) ⟨Nat.le_of_ble_eq_true rfl, Nat.le_of_ble_eq_true rfl⟩) (wrV hP hD hK 7 0 rfl rfl) rfl rfl hl.1 rfl (lv_room (Nat.le_of_ble_eq_true rfl)) dX6_retract_54 ⟨Nat.zero_le _, Nat.zero_le _⟩) hD hS hA (fun _ => rfl) (fun H locs hP hD hS => ?_)
  refine lv_iload_n hx hb dX6_retract_57 rfl (lv_at hl 0 rfl) ?_
  obtain ⟨g58, h⟩ := gd_ex h
  exact MQi.end hx hb hr hlocks hP hS dX6_retract_58 (okC_n g58) (nn_ h)

set_option maxHeartbeats 4000000 in
set_option maxRecDepth 100000 in
theorem kX6_retract (l : Launch) (G : GT) (q : Nat → Nat) (C : St) (sz : Nat) (x1 : Int32) (r : Int32 × St) (h : pX6_retract C x1 = some (.inr r)) : Met l yX6_retract wsX6_retract rmX6_retract (va_Pc [.ref (q 0), .int x1] (wrP G (CW G q C) sz)) (va_Qi (fun v u => (v, u) = r) (fun u t => va_P G.1 vwCl (CW G q u) t.heap) (va_A (CW G q C) sz)) 0 0 (va_A (CW G q C) sz) := by
  refine Met.ofW (cc := cX6_retract) (maxL := 3) (ret := (some .char)) (by decide) rfl ?_
  intro p e s m args below meth c s₁ B hml hv
  obtain ⟨rfl, hsz, hP, hK, hD0⟩ := hv
  have bx := bx_of B hml
  subst hsz
  have hD := hD0.self (sz := s.heap.size)
  generalize hAe : va_A (CW G q C) s.heap.size = A at hD ⊢
  have hA : ∀ q : Nat, s.heap.size ≤ q → A q := fun q h => by rw [← hAe]; exact Or.inr h
  have hS : va_S A s.heap s.heap [] := va_S.rf
  obtain ⟨hx, hb, hr, hts, hown, hml, hlocks⟩ := id bx
  have hl := lv_entry ([.ref (q 0), .int x1]) (n := 3) (Nat.le_of_ble_eq_true rfl)
  rw [lg_entry_eq]
  generalize (lg_sl ([.ref (q 0), .int x1]) ++ List.replicate (3 - (lg_sl ([.ref (q 0), .int x1])).length) Slot.unset).toArray = ls at hl ⊢
  have hl : lv_has ls 3 [(0, .ref (q 0)), (1, .int x1)] := hl
  show W p l e rmX6_retract s m _ below meth c s.heap [] 0 0 (MQi G (CW G q) A s _ below r) (F0 m 0 ls [])
  unfold pX6_retract at h
  refine lv_aload_n hx hb dX6_retract_0 rfl (lv_at hl 0 rfl) ?_
  refine lv_iload_n hx hb dX6_retract_1 rfl (lv_at hl 1 rfl) ?_
  obtain ⟨r_1, hr_1, h⟩ := tb_N h
  refine ro_v (va_runV (As := [.int x1]) (rest := []) ⟨hx, hb, hml, hown, hts⟩ (kX6_checkFeature l G q C x1 r_1 hr_1) (cwV 1 hts gX6_retract_X6_checkFeature rfl rfl rfl (by decide +kernel) ⟨Nat.le_of_ble_eq_true rfl, Nat.le_of_ble_eq_true rfl⟩) (roV hP hK 7 0 rfl rfl) rfl rfl hl.1 rfl (lv_room (Nat.le_of_ble_eq_true rfl)) dX6_retract_2 ⟨Nat.zero_le _, Nat.zero_le _⟩) ?_
  refine lv_aload_n hx hb dX6_retract_5 rfl (lv_at hl 0 rfl) ?_
  refine va_get (D := G.1) (ci := 7) (v := .int (C.1 0)) (C := RX6) (T := TX6) (N := 7) hx hb hts in_wsX6_retract_X6 hown hK.1 hP 0 rfl rfl 5 (by decide) (w_mem hts 3 rfl) (fun _ h9 => h9) rfl dX6_retract_6 ?_
  refine lv_aload_n hx hb dX6_retract_9 rfl (lv_at hl 0 rfl) ?_
  refine va_get (D := G.1) (ci := 7) (v := .int (C.1 1)) (C := RX6) (T := TX6) (N := 7) hx hb hts in_wsX6_retract_X6 hown hK.1 hP 0 rfl rfl 6 (by decide) (w_mem hts 4 rfl) (fun _ h9 => h9) rfl dX6_retract_10 ?_
  refine lv_ior hx hb dX6_retract_13 ?_
  refine lv_iload_n hx hb dX6_retract_14 rfl (lv_at hl 1 rfl) ?_
  obtain ⟨r_2, hr_2, h⟩ := bd_ex h
  refine ro_i (va_runS (As := [.int ((C.1 0) ||| (C.1 1)), .int x1]) (rest := []) ⟨hx, hb, hml, hown, hts⟩ (kX6_has l G q C ((C.1 0) ||| (C.1 1)) x1 r_2 hr_2) (va_cwS 2 hts gX6_retract_X6_has rfl rfl rfl (by decide +kernel) ⟨Nat.le_of_ble_eq_true rfl, Nat.le_of_ble_eq_true rfl⟩) (roS hP hK) rfl rfl hl.1 rfl (lv_room (Nat.le_of_ble_eq_true rfl)) dX6_retract_15 ⟨Nat.zero_le _, Nat.zero_le _⟩) ?_
  refine lv_if_ne (tgt := 31) hx hb dX6_retract_18 (by decide) (fun c_18 => ?_) (fun c_18 => ?_)
  · have h := br_F h c_18
    refine lv_aload_n hx hb dX6_retract_31 rfl (lv_at hl 0 rfl) ?_
    refine va_get (D := G.1) (ci := 7) (v := .int (C.1 0)) (C := RX6) (T := TX6) (N := 7) hx hb hts in_wsX6_retract_X6 hown hK.1 hP 0 rfl rfl 5 (by decide) (w_mem hts 3 rfl) (fun _ h9 => h9) rfl dX6_retract_32 ?_
    refine lv_iload_n hx hb dX6_retract_35 rfl (lv_at hl 1 rfl) ?_
    obtain ⟨r_3, hr_3, h⟩ := bd_ex h
    refine ro_i (va_runS (As := [.int (C.1 0), .int x1]) (rest := []) ⟨hx, hb, hml, hown, hts⟩ (kX6_has l G q C (C.1 0) x1 r_3 hr_3) (va_cwS 2 hts gX6_retract_X6_has rfl rfl rfl (by decide +kernel) ⟨Nat.le_of_ble_eq_true rfl, Nat.le_of_ble_eq_true rfl⟩) (roS hP hK) rfl rfl hl.1 rfl (lv_room (Nat.le_of_ble_eq_true rfl)) dX6_retract_36 ⟨Nat.zero_le _, Nat.zero_le _⟩) ?_
    refine lv_if_eq (tgt := 47) hx hb dX6_retract_39 (by decide) (fun c_39 => ?_) (fun c_39 => ?_)
    · have h := br_T h c_39
      refine lv_bipush (v := 114) hx hb dX6_retract_47 (by decide) ?_
      exact wX6_retract_49 bx hA hK C x1 114 h hP hD hS _ (lv_sub hl [0, 1] rfl)
    · have h := br_F h c_39
      refine lv_bipush (v := 99) hx hb dX6_retract_42 (by decide) ?_
      refine lv_goto (tgt := 49) hx hb dX6_retract_44 (by decide) ?_
      exact wX6_retract_49 bx hA hK C x1 99 h hP hD hS _ (lv_sub hl [0, 1] rfl)
  · have h := br_T h c_18
    cases h

def rxX6_retract : Room := { frames := 7, cells := 1, slots := 6, locals := 121 }

set_option maxHeartbeats 4000000 in
set_option maxRecDepth 100000 in
theorem xX6_retract_49 {p : Program} {l : Launch} {e : Env} {s : State} {m : MethodId} {args : Array Value} {below : List Frame} {meth : Method} {c : Code} {G : GT} {q : Nat → Nat} {A : Nat → Prop} {out : Nat × St} (bx : BX p RX6 wsX6_retract cX6_retract 3 (some .char) s m args meth c) (hA : ∀ q : Nat, s.heap.size ≤ q → A q) (hK : CK G s) (hl0 : l.stackTraces = false) (hE : XE A s) (hex : ∀ x ∈ c.exceptionTable.toList, False) (C : St) (x1 : Int32) (t0 : Int32) (h : pX6_retract_49 C x1 t0 = some (.inl out)) {H : Heap} {locs : List Loc} (hP : va_P G.1 vwCl (CW G q C) H) (hD : va_D A (CW G q C)) (hS : va_S A s.heap H locs) (ls : Array Slot) (hl : lv_has ls 3 [(0, .ref (q 0)), (1, .int x1)]) : W p l e rxX6_retract s m args below meth c H locs 0 0 (MQx G (CW G q) A s args below out) (F0 m 49 ls [.int t0]) := by
  obtain ⟨hx, hb, hr, hts, hown, hml, hlocks⟩ := id bx
  unfold pX6_retract_49 at h
  refine lv_istore_n (lv' := [(2, .int t0), (0, .ref (q 0)), (1, .int x1)]) hx hb dX6_retract_49 rfl hl (by decide) rfl (fun ls hl => ?_)
  refine lv_aload_n hx hb dX6_retract_50 rfl (lv_at hl 1 rfl) ?_
  refine lv_iconst (v := 1) hx hb dX6_retract_51 (by decide) ?_
  refine lv_iload_n hx hb dX6_retract_52 rfl (lv_at hl 2 rfl) ?_
  refine lv_ishl hx hb dX6_retract_53 ?_
  obtain ⟨u_4, hu_4, h⟩ := bd_ex h
  refine wr_v (Wd := CW G q) (va_runV (As := [.int ((1 : Int32) <<< (x1 &&& 31))]) (rest := []) ⟨hx, hb, hml, hown, hts⟩ (kX6_takeBack l G q C _ ((1 : Int32) <<< (x1 &&& 31)) u_4 hu_4) (cwV 1 hts gX6_retract_X6_takeBack rfl rfl rfl (by decide +kernel) ⟨Nat.le_of_ble_eq_true rfl, Nat.le_of_ble_eq_true rfl⟩) (wrV hP hD hK 7 0 rfl rfl) rfl rfl hl.1 rfl (lv_room (Nat.le_of_ble_eq_true rfl)) dX6_retract_54 ⟨Nat.zero_le _, Nat.zero_le _⟩) hD hS hA (fun _ => rfl) (fun H locs hP hD hS => ?_)
  refine lv_iload_n hx hb dX6_retract_57 rfl (lv_at hl 0 rfl) ?_
  obtain ⟨g58, h⟩ := gd_ex h
  cases h

set_option maxHeartbeats 4000000 in
set_option maxRecDepth 100000 in
theorem xX6_retract (l : Launch) (hl0 : l.stackTraces = false) (G : GT) (q : Nat → Nat) (C : St) (sz : Nat) (x1 : Int32) (r : Nat × St) (h : pX6_retract C x1 = some (.inl r)) : vx_Met l yX6_retract wsX6_retract rxX6_retract (va_Pc [.ref (q 0), .int x1] (xP G (CW G q C) sz)) (fun _ _ _ _ => False) (XCf G (CW G q) (va_A (CW G q C) sz) r) 1 6 (va_A (CW G q C) sz) := by
  refine vx_ofW (cc := cX6_retract) (maxL := 3) (ret := (some .char)) (by decide) rfl ?_
  intro p e s m args below meth c s₁ B hml hex hv
  obtain ⟨rfl, ⟨hsz, hP, hK, hD0⟩, hE⟩ := hv
  have bx := bx_of B hml
  subst hsz
  have hD := hD0.self (sz := s.heap.size)
  generalize hAe : va_A (CW G q C) s.heap.size = A at hD hE ⊢
  have hA : ∀ q : Nat, s.heap.size ≤ q → A q := fun q h => by rw [← hAe]; exact Or.inr h
  have hS : va_S A s.heap s.heap [] := va_S.rf
  obtain ⟨hx, hb, hr, hts, hown, hml, hlocks⟩ := id bx
  have hl := lv_entry ([.ref (q 0), .int x1]) (n := 3) (Nat.le_of_ble_eq_true rfl)
  rw [lg_entry_eq]
  generalize (lg_sl ([.ref (q 0), .int x1]) ++ List.replicate (3 - (lg_sl ([.ref (q 0), .int x1])).length) Slot.unset).toArray = ls at hl ⊢
  have hl : lv_has ls 3 [(0, .ref (q 0)), (1, .int x1)] := hl
  show W p l e rxX6_retract s m _ below meth c s.heap [] 0 0 (MQx G (CW G q) A s _ below r) (F0 m 0 ls [])
  unfold pX6_retract at h
  refine lv_aload_n hx hb dX6_retract_0 rfl (lv_at hl 0 rfl) ?_
  refine lv_iload_n hx hb dX6_retract_1 rfl (lv_at hl 1 rfl) ?_
  rcases tb_X h with ⟨er_1, hr_1, h⟩ | ⟨r_1, hr_1, h⟩
  · exact x_prop (Wd := CW G q) (vx_runV (As := [.int x1]) (rest := []) ⟨hx, hb, hml, hown, hts⟩ (xX6_checkFeature l hl0 G q C _ x1 er_1 hr_1) (cwV 1 hts gX6_retract_X6_checkFeature rfl rfl rfl (by decide +kernel) ⟨Nat.le_of_ble_eq_true rfl, Nat.le_of_ble_eq_true rfl⟩) (xV hP hD hS hK hA hE 7 0 rfl rfl) rfl rfl hl.1 rfl (lv_room (Nat.le_of_ble_eq_true rfl)) dX6_retract_2 ⟨Nat.le_of_ble_eq_true rfl, Nat.le_of_ble_eq_true rfl⟩) hD hS hA (fun _ => rfl) hex hlocks h
  refine ro_v (va_runV (As := [.int x1]) (rest := []) ⟨hx, hb, hml, hown, hts⟩ (kX6_checkFeature l G q C x1 r_1 hr_1) (cwV 1 hts gX6_retract_X6_checkFeature rfl rfl rfl (by decide +kernel) ⟨Nat.le_of_ble_eq_true rfl, Nat.le_of_ble_eq_true rfl⟩) (roV hP hK 7 0 rfl rfl) rfl rfl hl.1 rfl (lv_room (Nat.le_of_ble_eq_true rfl)) dX6_retract_2 ⟨Nat.zero_le _, Nat.zero_le _⟩) ?_
  refine lv_aload_n hx hb dX6_retract_5 rfl (lv_at hl 0 rfl) ?_
  refine va_get (D := G.1) (ci := 7) (v := .int (C.1 0)) (C := RX6) (T := TX6) (N := 7) hx hb hts in_wsX6_retract_X6 hown hK.1 hP 0 rfl rfl 5 (by decide) (w_mem hts 3 rfl) (fun _ h9 => h9) rfl dX6_retract_6 ?_
  refine lv_aload_n hx hb dX6_retract_9 rfl (lv_at hl 0 rfl) ?_
  refine va_get (D := G.1) (ci := 7) (v := .int (C.1 1)) (C := RX6) (T := TX6) (N := 7) hx hb hts in_wsX6_retract_X6 hown hK.1 hP 0 rfl rfl 6 (by decide) (w_mem hts 4 rfl) (fun _ h9 => h9) rfl dX6_retract_10 ?_
  refine lv_ior hx hb dX6_retract_13 ?_
  refine lv_iload_n hx hb dX6_retract_14 rfl (lv_at hl 1 rfl) ?_
  obtain ⟨r_2, hr_2, h⟩ := bd_ex h
  refine ro_i (va_runS (As := [.int ((C.1 0) ||| (C.1 1)), .int x1]) (rest := []) ⟨hx, hb, hml, hown, hts⟩ (kX6_has l G q C ((C.1 0) ||| (C.1 1)) x1 r_2 hr_2) (va_cwS 2 hts gX6_retract_X6_has rfl rfl rfl (by decide +kernel) ⟨Nat.le_of_ble_eq_true rfl, Nat.le_of_ble_eq_true rfl⟩) (roS hP hK) rfl rfl hl.1 rfl (lv_room (Nat.le_of_ble_eq_true rfl)) dX6_retract_15 ⟨Nat.zero_le _, Nat.zero_le _⟩) ?_
  refine lv_if_ne (tgt := 31) hx hb dX6_retract_18 (by decide) (fun c_18 => ?_) (fun c_18 => ?_)
  · have h := br_F h c_18
    refine lv_aload_n hx hb dX6_retract_31 rfl (lv_at hl 0 rfl) ?_
    refine va_get (D := G.1) (ci := 7) (v := .int (C.1 0)) (C := RX6) (T := TX6) (N := 7) hx hb hts in_wsX6_retract_X6 hown hK.1 hP 0 rfl rfl 5 (by decide) (w_mem hts 3 rfl) (fun _ h9 => h9) rfl dX6_retract_32 ?_
    refine lv_iload_n hx hb dX6_retract_35 rfl (lv_at hl 1 rfl) ?_
    obtain ⟨r_3, hr_3, h⟩ := bd_ex h
    refine ro_i (va_runS (As := [.int (C.1 0), .int x1]) (rest := []) ⟨hx, hb, hml, hown, hts⟩ (kX6_has l G q C (C.1 0) x1 r_3 hr_3) (va_cwS 2 hts gX6_retract_X6_has rfl rfl rfl (by decide +kernel) ⟨Nat.le_of_ble_eq_true rfl, Nat.le_of_ble_eq_true rfl⟩) (roS hP hK) rfl rfl hl.1 rfl (lv_room (Nat.le_of_ble_eq_true rfl)) dX6_retract_36 ⟨Nat.zero_le _, Nat.zero_le _⟩) ?_
    refine lv_if_eq (tgt := 47) hx hb dX6_retract_39 (by decide) (fun c_39 => ?_) (fun c_39 => ?_)
    · have h := br_T h c_39
      refine lv_bipush (v := 114) hx hb dX6_retract_47 (by decide) ?_
      exact xX6_retract_49 bx hA hK hl0 hE hex C x1 114 h hP hD hS _ (lv_sub hl [0, 1] rfl)
    · have h := br_F h c_39
      refine lv_bipush (v := 99) hx hb dX6_retract_42 (by decide) ?_
      refine lv_goto (tgt := 49) hx hb dX6_retract_44 (by decide) ?_
      exact xX6_retract_49 bx hA hK hl0 hE hex C x1 99 h hP hD hS _ (lv_sub hl [0, 1] rfl)
  · have h := br_T h c_18
    exact x_throwS (Wd := CW G q) (C := C) (k := 3) (cls := "java/lang/IllegalStateException") (text := "the feature is not decided") hx hb hl0 hts hown hml hlocks hex hK hE hP hS hl (by decide +kernel) (w_mem hts 1 rfl) (w_mem hts 2 rfl) (List.mem_of_getElem? (i := 6) rfl) (fun w h => List.mem_cons_of_mem _ (List.mem_append_left _ (List.mem_append_right _ h))) xB_63 xG_63_59 dX6_retract_21 dX6_retract_24 dX6_retract_25 dX6_retract_27 dX6_retract_30 ⟨Nat.le_of_ble_eq_true rfl, Nat.le_of_ble_eq_true rfl, Nat.le_of_ble_eq_true rfl, Nat.le_of_ble_eq_true rfl⟩ ((xl_ h).symm) rfl

def rmX6_known : Room := { frames := 6, cells := 0, slots := 0, locals := 139 }

theorem in_wsX6_known_X6 : ∀ w ∈ u_ws RX6 TX6 7, w ∈ wsX6_known := by decide +kernel

theorem in_wsX6_known_X0 : ∀ w ∈ u_ws RX0 TX0 4, w ∈ wsX6_known := by decide +kernel

set_option maxHeartbeats 4000000 in
set_option maxRecDepth 100000 in
theorem kX6_known (l : Launch) (G : GT) (q : Nat → Nat) (C : St) (sz : Nat) (x1 : Int32) (r : Int32 × St) (h : pX6_known C x1 = some (.inr r)) : Met l yX6_known wsX6_known rmX6_known (va_Pc [.ref (q 0), .int x1] (wrP G (CW G q C) sz)) (va_Qi (fun v u => (v, u) = r) (fun u t => va_P G.1 vwCl (CW G q u) t.heap) (va_A (CW G q C) sz)) 0 0 (va_A (CW G q C) sz) := by
  refine Met.ofW (cc := cX6_known) (maxL := 2) (ret := (some .char)) (by decide) rfl ?_
  intro p e s m args below meth c s₁ B hml hv
  obtain ⟨rfl, hsz, hP, hK, hD0⟩ := hv
  have bx := bx_of B hml
  subst hsz
  have hD := hD0.self (sz := s.heap.size)
  generalize hAe : va_A (CW G q C) s.heap.size = A at hD ⊢
  have hA : ∀ q : Nat, s.heap.size ≤ q → A q := fun q h => by rw [← hAe]; exact Or.inr h
  have hS : va_S A s.heap s.heap [] := va_S.rf
  obtain ⟨hx, hb, hr, hts, hown, hml, hlocks⟩ := id bx
  have hl := lv_entry ([.ref (q 0), .int x1]) (n := 2) (Nat.le_of_ble_eq_true rfl)
  rw [lg_entry_eq]
  generalize (lg_sl ([.ref (q 0), .int x1]) ++ List.replicate (2 - (lg_sl ([.ref (q 0), .int x1])).length) Slot.unset).toArray = ls at hl ⊢
  have hl : lv_has ls 2 [(0, .ref (q 0)), (1, .int x1)] := hl
  show W p l e rmX6_known s m _ below meth c s.heap [] 0 0 (MQi G (CW G q) A s _ below r) (F0 m 0 ls [])
  unfold pX6_known at h
  refine lv_aload_n hx hb dX6_known_0 rfl (lv_at hl 0 rfl) ?_
  refine lv_iload_n hx hb dX6_known_1 rfl (lv_at hl 1 rfl) ?_
  obtain ⟨r_1, hr_1, h⟩ := tb_N h
  refine ro_v (va_runV (As := [.int x1]) (rest := []) ⟨hx, hb, hml, hown, hts⟩ (kX6_checkFeature l G q C x1 r_1 hr_1) (cwV 1 hts gX6_known_X6_checkFeature rfl rfl rfl (by decide +kernel) ⟨Nat.le_of_ble_eq_true rfl, Nat.le_of_ble_eq_true rfl⟩) (roV hP hK 7 0 rfl rfl) rfl rfl hl.1 rfl (lv_room (Nat.le_of_ble_eq_true rfl)) dX6_known_2 ⟨Nat.zero_le _, Nat.zero_le _⟩) ?_
  refine lv_aload_n hx hb dX6_known_5 rfl (lv_at hl 0 rfl) ?_
  obtain ⟨u_2, hu_2, h⟩ := bd_ex h
  refine wr_v (Wd := CW G q) (va_runV (As := []) (rest := []) ⟨hx, hb, hml, hown, hts⟩ (kX6_deduce l G q C _ u_2 hu_2) (cwV 0 hts gX6_known_X6_deduce rfl rfl rfl (by decide +kernel) ⟨Nat.le_of_ble_eq_true rfl, Nat.le_of_ble_eq_true rfl⟩) (wrV hP hD hK 7 0 rfl rfl) rfl rfl hl.1 rfl (lv_room (Nat.le_of_ble_eq_true rfl)) dX6_known_6 ⟨Nat.zero_le _, Nat.zero_le _⟩) hD hS hA (fun _ => rfl) (fun H locs hP hD hS => ?_)
  refine lv_aload_n hx hb dX6_known_9 rfl (lv_at hl 0 rfl) ?_
  refine va_get (D := G.1) (ci := 7) (v := .ref (q 4)) (C := RX6) (T := TX6) (N := 7) hx hb hts in_wsX6_known_X6 hown hK.1 hP 0 rfl rfl 3 (by decide) (w_mem hts 1 rfl) (fun _ h9 => h9) rfl dX6_known_10 ?_
  refine va_getN (D := G.1) (ci := 2) (v := .int (u_2.1 7)) (C := RX0) (T := TX0) (N := 4) hx hb hts in_wsX6_known_X0 hown hK.1 hP 4 rfl rfl 2 (by decide) (hK.2.at 40 rfl) (fun _ h9 => h9) rfl dX6_known_13 ?_
  refine lv_iload_n hx hb dX6_known_16 rfl (lv_at hl 1 rfl) ?_
  obtain ⟨r_3, hr_3, h⟩ := bd_ex h
  refine ro_i (va_runS (As := [.int (u_2.1 7), .int x1]) (rest := []) ⟨hx, hb, hml, hown, hts⟩ (kX6_has l G q u_2 (u_2.1 7) x1 r_3 hr_3) (va_cwS 2 hts gX6_known_X6_has rfl rfl rfl (by decide +kernel) ⟨Nat.le_of_ble_eq_true rfl, Nat.le_of_ble_eq_true rfl⟩) (roS hP hK) rfl rfl hl.1 rfl (lv_room (Nat.le_of_ble_eq_true rfl)) dX6_known_17 ⟨Nat.zero_le _, Nat.zero_le _⟩) ?_
  refine lv_if_eq (tgt := 26) hx hb dX6_known_20 (by decide) (fun c_20 => ?_) (fun c_20 => ?_)
  · have h := br_T h c_20
    refine lv_aload_n hx hb dX6_known_26 rfl (lv_at hl 0 rfl) ?_
    refine va_get (D := G.1) (ci := 7) (v := .ref (q 4)) (C := RX6) (T := TX6) (N := 7) hx hb hts in_wsX6_known_X6 hown hK.1 hP 0 rfl rfl 3 (by decide) (w_mem hts 1 rfl) (fun _ h9 => h9) rfl dX6_known_27 ?_
    refine va_getN (D := G.1) (ci := 2) (v := .int (u_2.1 8)) (C := RX0) (T := TX0) (N := 4) hx hb hts in_wsX6_known_X0 hown hK.1 hP 4 rfl rfl 3 (by decide) (hK.2.at 41 rfl) (fun _ h9 => h9) rfl dX6_known_30 ?_
    refine lv_iload_n hx hb dX6_known_33 rfl (lv_at hl 1 rfl) ?_
    obtain ⟨r_4, hr_4, h⟩ := bd_ex h
    refine ro_i (va_runS (As := [.int (u_2.1 8), .int x1]) (rest := []) ⟨hx, hb, hml, hown, hts⟩ (kX6_has l G q u_2 (u_2.1 8) x1 r_4 hr_4) (va_cwS 2 hts gX6_known_X6_has rfl rfl rfl (by decide +kernel) ⟨Nat.le_of_ble_eq_true rfl, Nat.le_of_ble_eq_true rfl⟩) (roS hP hK) rfl rfl hl.1 rfl (lv_room (Nat.le_of_ble_eq_true rfl)) dX6_known_34 ⟨Nat.zero_le _, Nat.zero_le _⟩) ?_
    refine lv_if_eq (tgt := 45) hx hb dX6_known_37 (by decide) (fun c_37 => ?_) (fun c_37 => ?_)
    · have h := br_T h c_37
      refine lv_bipush (v := 117) hx hb dX6_known_45 (by decide) ?_
      exact MQi.end hx hb hr hlocks hP hS dX6_known_47 rfl (nn_ h)
    · have h := br_F h c_37
      refine lv_bipush (v := 110) hx hb dX6_known_40 (by decide) ?_
      refine lv_goto (tgt := 47) hx hb dX6_known_42 (by decide) ?_
      exact MQi.end hx hb hr hlocks hP hS dX6_known_47 rfl (nn_ h)
  · have h := br_F h c_20
    refine lv_bipush (v := 105) hx hb dX6_known_23 (by decide) ?_
    exact MQi.end hx hb hr hlocks hP hS dX6_known_25 rfl (nn_ h)

def rxX6_known : Room := { frames := 7, cells := 1, slots := 6, locals := 139 }

set_option maxHeartbeats 4000000 in
set_option maxRecDepth 100000 in
theorem xX6_known (l : Launch) (hl0 : l.stackTraces = false) (G : GT) (q : Nat → Nat) (C : St) (sz : Nat) (x1 : Int32) (r : Nat × St) (h : pX6_known C x1 = some (.inl r)) : vx_Met l yX6_known wsX6_known rxX6_known (va_Pc [.ref (q 0), .int x1] (xP G (CW G q C) sz)) (fun _ _ _ _ => False) (XCf G (CW G q) (va_A (CW G q C) sz) r) 1 6 (va_A (CW G q C) sz) := by
  refine vx_ofW (cc := cX6_known) (maxL := 2) (ret := (some .char)) (by decide) rfl ?_
  intro p e s m args below meth c s₁ B hml hex hv
  obtain ⟨rfl, ⟨hsz, hP, hK, hD0⟩, hE⟩ := hv
  have bx := bx_of B hml
  subst hsz
  have hD := hD0.self (sz := s.heap.size)
  generalize hAe : va_A (CW G q C) s.heap.size = A at hD hE ⊢
  have hA : ∀ q : Nat, s.heap.size ≤ q → A q := fun q h => by rw [← hAe]; exact Or.inr h
  have hS : va_S A s.heap s.heap [] := va_S.rf
  obtain ⟨hx, hb, hr, hts, hown, hml, hlocks⟩ := id bx
  have hl := lv_entry ([.ref (q 0), .int x1]) (n := 2) (Nat.le_of_ble_eq_true rfl)
  rw [lg_entry_eq]
  generalize (lg_sl ([.ref (q 0), .int x1]) ++ List.replicate (2 - (lg_sl ([.ref (q 0), .int x1])).length) Slot.unset).toArray = ls at hl ⊢
  have hl : lv_has ls 2 [(0, .ref (q 0)), (1, .int x1)] := hl
  show W p l e rxX6_known s m _ below meth c s.heap [] 0 0 (MQx G (CW G q) A s _ below r) (F0 m 0 ls [])
  unfold pX6_known at h
  refine lv_aload_n hx hb dX6_known_0 rfl (lv_at hl 0 rfl) ?_
  refine lv_iload_n hx hb dX6_known_1 rfl (lv_at hl 1 rfl) ?_
  rcases tb_X h with ⟨er_1, hr_1, h⟩ | ⟨r_1, hr_1, h⟩
  · exact x_prop (Wd := CW G q) (vx_runV (As := [.int x1]) (rest := []) ⟨hx, hb, hml, hown, hts⟩ (xX6_checkFeature l hl0 G q C _ x1 er_1 hr_1) (cwV 1 hts gX6_known_X6_checkFeature rfl rfl rfl (by decide +kernel) ⟨Nat.le_of_ble_eq_true rfl, Nat.le_of_ble_eq_true rfl⟩) (xV hP hD hS hK hA hE 7 0 rfl rfl) rfl rfl hl.1 rfl (lv_room (Nat.le_of_ble_eq_true rfl)) dX6_known_2 ⟨Nat.le_of_ble_eq_true rfl, Nat.le_of_ble_eq_true rfl⟩) hD hS hA (fun _ => rfl) hex hlocks h
  refine ro_v (va_runV (As := [.int x1]) (rest := []) ⟨hx, hb, hml, hown, hts⟩ (kX6_checkFeature l G q C x1 r_1 hr_1) (cwV 1 hts gX6_known_X6_checkFeature rfl rfl rfl (by decide +kernel) ⟨Nat.le_of_ble_eq_true rfl, Nat.le_of_ble_eq_true rfl⟩) (roV hP hK 7 0 rfl rfl) rfl rfl hl.1 rfl (lv_room (Nat.le_of_ble_eq_true rfl)) dX6_known_2 ⟨Nat.zero_le _, Nat.zero_le _⟩) ?_
  refine lv_aload_n hx hb dX6_known_5 rfl (lv_at hl 0 rfl) ?_
  obtain ⟨u_2, hu_2, h⟩ := bd_ex h
  refine wr_v (Wd := CW G q) (va_runV (As := []) (rest := []) ⟨hx, hb, hml, hown, hts⟩ (kX6_deduce l G q C _ u_2 hu_2) (cwV 0 hts gX6_known_X6_deduce rfl rfl rfl (by decide +kernel) ⟨Nat.le_of_ble_eq_true rfl, Nat.le_of_ble_eq_true rfl⟩) (wrV hP hD hK 7 0 rfl rfl) rfl rfl hl.1 rfl (lv_room (Nat.le_of_ble_eq_true rfl)) dX6_known_6 ⟨Nat.zero_le _, Nat.zero_le _⟩) hD hS hA (fun _ => rfl) (fun H locs hP hD hS => ?_)
  refine lv_aload_n hx hb dX6_known_9 rfl (lv_at hl 0 rfl) ?_
  refine va_get (D := G.1) (ci := 7) (v := .ref (q 4)) (C := RX6) (T := TX6) (N := 7) hx hb hts in_wsX6_known_X6 hown hK.1 hP 0 rfl rfl 3 (by decide) (w_mem hts 1 rfl) (fun _ h9 => h9) rfl dX6_known_10 ?_
  refine va_getN (D := G.1) (ci := 2) (v := .int (u_2.1 7)) (C := RX0) (T := TX0) (N := 4) hx hb hts in_wsX6_known_X0 hown hK.1 hP 4 rfl rfl 2 (by decide) (hK.2.at 40 rfl) (fun _ h9 => h9) rfl dX6_known_13 ?_
  refine lv_iload_n hx hb dX6_known_16 rfl (lv_at hl 1 rfl) ?_
  obtain ⟨r_3, hr_3, h⟩ := bd_ex h
  refine ro_i (va_runS (As := [.int (u_2.1 7), .int x1]) (rest := []) ⟨hx, hb, hml, hown, hts⟩ (kX6_has l G q u_2 (u_2.1 7) x1 r_3 hr_3) (va_cwS 2 hts gX6_known_X6_has rfl rfl rfl (by decide +kernel) ⟨Nat.le_of_ble_eq_true rfl, Nat.le_of_ble_eq_true rfl⟩) (roS hP hK) rfl rfl hl.1 rfl (lv_room (Nat.le_of_ble_eq_true rfl)) dX6_known_17 ⟨Nat.zero_le _, Nat.zero_le _⟩) ?_
  refine lv_if_eq (tgt := 26) hx hb dX6_known_20 (by decide) (fun c_20 => ?_) (fun c_20 => ?_)
  · have h := br_T h c_20
    refine lv_aload_n hx hb dX6_known_26 rfl (lv_at hl 0 rfl) ?_
    refine va_get (D := G.1) (ci := 7) (v := .ref (q 4)) (C := RX6) (T := TX6) (N := 7) hx hb hts in_wsX6_known_X6 hown hK.1 hP 0 rfl rfl 3 (by decide) (w_mem hts 1 rfl) (fun _ h9 => h9) rfl dX6_known_27 ?_
    refine va_getN (D := G.1) (ci := 2) (v := .int (u_2.1 8)) (C := RX0) (T := TX0) (N := 4) hx hb hts in_wsX6_known_X0 hown hK.1 hP 4 rfl rfl 3 (by decide) (hK.2.at 41 rfl) (fun _ h9 => h9) rfl dX6_known_30 ?_
    refine lv_iload_n hx hb dX6_known_33 rfl (lv_at hl 1 rfl) ?_
    obtain ⟨r_4, hr_4, h⟩ := bd_ex h
    refine ro_i (va_runS (As := [.int (u_2.1 8), .int x1]) (rest := []) ⟨hx, hb, hml, hown, hts⟩ (kX6_has l G q u_2 (u_2.1 8) x1 r_4 hr_4) (va_cwS 2 hts gX6_known_X6_has rfl rfl rfl (by decide +kernel) ⟨Nat.le_of_ble_eq_true rfl, Nat.le_of_ble_eq_true rfl⟩) (roS hP hK) rfl rfl hl.1 rfl (lv_room (Nat.le_of_ble_eq_true rfl)) dX6_known_34 ⟨Nat.zero_le _, Nat.zero_le _⟩) ?_
    refine lv_if_eq (tgt := 45) hx hb dX6_known_37 (by decide) (fun c_37 => ?_) (fun c_37 => ?_)
    · have h := br_T h c_37
      refine lv_bipush (v := 117) hx hb dX6_known_45 (by decide) ?_
      cases h
    · have h := br_F h c_37
      refine lv_bipush (v := 110) hx hb dX6_known_40 (by decide) ?_
      refine lv_goto (tgt := 47) hx hb dX6_known_42 (by decide) ?_
      cases h
  · have h := br_F h c_20
    refine lv_bipush (v := 105) hx hb dX6_known_23 (by decide) ?_
    cases h

def rmX6_reasonOf : Room := { frames := 6, cells := 0, slots := 0, locals := 139 }

theorem in_wsX6_reasonOf_X6 : ∀ w ∈ u_ws RX6 TX6 7, w ∈ wsX6_reasonOf := by decide +kernel

theorem in_wsX6_reasonOf_X0 : ∀ w ∈ u_ws RX0 TX0 4, w ∈ wsX6_reasonOf := by decide +kernel

set_option maxHeartbeats 4000000 in
set_option maxRecDepth 100000 in
theorem kX6_reasonOf (l : Launch) (G : GT) (q : Nat → Nat) (C : St) (sz : Nat) (x1 : Int32) (r : Int32 × St) (h : pX6_reasonOf C x1 = some (.inr r)) : Met l yX6_reasonOf wsX6_reasonOf rmX6_reasonOf (va_Pc [.ref (q 0), .int x1] (wrP G (CW G q C) sz)) (va_Qi (fun v u => (v, u) = r) (fun u t => va_P G.1 vwCl (CW G q u) t.heap) (va_A (CW G q C) sz)) 0 0 (va_A (CW G q C) sz) := by
  refine Met.ofW (cc := cX6_reasonOf) (maxL := 2) (ret := (some .char)) (by decide) rfl ?_
  intro p e s m args below meth c s₁ B hml hv
  obtain ⟨rfl, hsz, hP, hK, hD0⟩ := hv
  have bx := bx_of B hml
  subst hsz
  have hD := hD0.self (sz := s.heap.size)
  generalize hAe : va_A (CW G q C) s.heap.size = A at hD ⊢
  have hA : ∀ q : Nat, s.heap.size ≤ q → A q := fun q h => by rw [← hAe]; exact Or.inr h
  have hS : va_S A s.heap s.heap [] := va_S.rf
  obtain ⟨hx, hb, hr, hts, hown, hml, hlocks⟩ := id bx
  have hl := lv_entry ([.ref (q 0), .int x1]) (n := 2) (Nat.le_of_ble_eq_true rfl)
  rw [lg_entry_eq]
  generalize (lg_sl ([.ref (q 0), .int x1]) ++ List.replicate (2 - (lg_sl ([.ref (q 0), .int x1])).length) Slot.unset).toArray = ls at hl ⊢
  have hl : lv_has ls 2 [(0, .ref (q 0)), (1, .int x1)] := hl
  show W p l e rmX6_reasonOf s m _ below meth c s.heap [] 0 0 (MQi G (CW G q) A s _ below r) (F0 m 0 ls [])
  unfold pX6_reasonOf at h
  refine lv_aload_n hx hb dX6_reasonOf_0 rfl (lv_at hl 0 rfl) ?_
  refine lv_iload_n hx hb dX6_reasonOf_1 rfl (lv_at hl 1 rfl) ?_
  obtain ⟨r_1, hr_1, h⟩ := tb_N h
  refine ro_v (va_runV (As := [.int x1]) (rest := []) ⟨hx, hb, hml, hown, hts⟩ (kX6_checkFeature l G q C x1 r_1 hr_1) (cwV 1 hts gX6_reasonOf_X6_checkFeature rfl rfl rfl (by decide +kernel) ⟨Nat.le_of_ble_eq_true rfl, Nat.le_of_ble_eq_true rfl⟩) (roV hP hK 7 0 rfl rfl) rfl rfl hl.1 rfl (lv_room (Nat.le_of_ble_eq_true rfl)) dX6_reasonOf_2 ⟨Nat.zero_le _, Nat.zero_le _⟩) ?_
  refine lv_aload_n hx hb dX6_reasonOf_5 rfl (lv_at hl 0 rfl) ?_
  obtain ⟨u_2, hu_2, h⟩ := bd_ex h
  refine wr_v (Wd := CW G q) (va_runV (As := []) (rest := []) ⟨hx, hb, hml, hown, hts⟩ (kX6_deduce l G q C _ u_2 hu_2) (cwV 0 hts gX6_reasonOf_X6_deduce rfl rfl rfl (by decide +kernel) ⟨Nat.le_of_ble_eq_true rfl, Nat.le_of_ble_eq_true rfl⟩) (wrV hP hD hK 7 0 rfl rfl) rfl rfl hl.1 rfl (lv_room (Nat.le_of_ble_eq_true rfl)) dX6_reasonOf_6 ⟨Nat.zero_le _, Nat.zero_le _⟩) hD hS hA (fun _ => rfl) (fun H locs hP hD hS => ?_)
  refine lv_aload_n hx hb dX6_reasonOf_9 rfl (lv_at hl 0 rfl) ?_
  refine va_get (D := G.1) (ci := 7) (v := .ref (q 4)) (C := RX6) (T := TX6) (N := 7) hx hb hts in_wsX6_reasonOf_X6 hown hK.1 hP 0 rfl rfl 3 (by decide) (w_mem hts 3 rfl) (fun _ h9 => h9) rfl dX6_reasonOf_10 ?_
  refine lv_iload_n hx hb dX6_reasonOf_13 rfl (lv_at hl 1 rfl) ?_
  obtain ⟨r_3, hr_3, h⟩ := bd_ex h
  refine ro_i (va_runVN (As := [.int x1]) (rest := []) ⟨hx, hb, hml, hown, hts⟩ (kX0_knows l G q u_2 x1 r_3 hr_3) ⟨va_cnB 1 hts gX6_reasonOf_X0_knows_n175 rfl rfl rfl (hK.2.nw 8 rfl) (w_mem hts 20 rfl) (by decide +kernel) ⟨Nat.le_of_ble_eq_true rfl, Nat.le_of_ble_eq_true rfl⟩, (w_mem hts 33 rfl), (w_mem hts 34 rfl)⟩ (roV hP hK 2 4 rfl rfl) rfl rfl hl.1 rfl (lv_room (Nat.le_of_ble_eq_true rfl)) dX6_reasonOf_14 ⟨Nat.zero_le _, Nat.zero_le _⟩) ?_
  refine lv_if_ne (tgt := 30) hx hb dX6_reasonOf_17 (by decide) (fun c_17 => ?_) (fun c_17 => ?_)
  · have h := br_F h c_17
    refine lv_aload_n hx hb dX6_reasonOf_30 rfl (lv_at hl 0 rfl) ?_
    refine va_get (D := G.1) (ci := 7) (v := .ref (q 4)) (C := RX6) (T := TX6) (N := 7) hx hb hts in_wsX6_reasonOf_X6 hown hK.1 hP 0 rfl rfl 3 (by decide) (w_mem hts 3 rfl) (fun _ h9 => h9) rfl dX6_reasonOf_31 ?_
    refine va_getN (D := G.1) (ci := 2) (v := .ref (q 17)) (C := RX0) (T := TX0) (N := 4) hx hb hts in_wsX6_reasonOf_X0 hown hK.1 hP 4 rfl rfl 0 (by decide) (hK.2.at 42 rfl) (fun _ h9 => h9) rfl dX6_reasonOf_34 ?_
    refine lv_iload_n hx hb dX6_reasonOf_37 rfl (lv_at hl 1 rfl) ?_
    obtain ⟨g38, h⟩ := gd_ex h
    refine va_cald (D := G.1) hx hb hK.1 hP 17 1 rfl rfl g38 dX6_reasonOf_38 ?_
    obtain ⟨g39, h⟩ := gd_ex h
    exact MQi.end hx hb hr hlocks hP hS dX6_reasonOf_39 (okC_n g39) (nn_ h)
  · have h := br_T h c_17
    cases h

def rxX6_reasonOf : Room := { frames := 7, cells := 1, slots := 6, locals := 139 }

set_option maxHeartbeats 4000000 in
set_option maxRecDepth 100000 in
theorem xX6_reasonOf (l : Launch) (hl0 : l.stackTraces = false) (G : GT) (q : Nat → Nat) (C : St) (sz : Nat) (x1 : Int32) (r : Nat × St) (h : pX6_reasonOf C x1 = some (.inl r)) : vx_Met l yX6_reasonOf wsX6_reasonOf rxX6_reasonOf (va_Pc [.ref (q 0), .int x1] (xP G (CW G q C) sz)) (fun _ _ _ _ => False) (XCf G (CW G q) (va_A (CW G q C) sz) r) 1 6 (va_A (CW G q C) sz) := by
  refine vx_ofW (cc := cX6_reasonOf) (maxL := 2) (ret := (some .char)) (by decide) rfl ?_
  intro p e s m args below meth c s₁ B hml hex hv
  obtain ⟨rfl, ⟨hsz, hP, hK, hD0⟩, hE⟩ := hv
  have bx := bx_of B hml
  subst hsz
  have hD := hD0.self (sz := s.heap.size)
  generalize hAe : va_A (CW G q C) s.heap.size = A at hD hE ⊢
  have hA : ∀ q : Nat, s.heap.size ≤ q → A q := fun q h => by rw [← hAe]; exact Or.inr h
  have hS : va_S A s.heap s.heap [] := va_S.rf
  obtain ⟨hx, hb, hr, hts, hown, hml, hlocks⟩ := id bx
  have hl := lv_entry ([.ref (q 0), .int x1]) (n := 2) (Nat.le_of_ble_eq_true rfl)
  rw [lg_entry_eq]
  generalize (lg_sl ([.ref (q 0), .int x1]) ++ List.replicate (2 - (lg_sl ([.ref (q 0), .int x1])).length) Slot.unset).toArray = ls at hl ⊢
  have hl : lv_has ls 2 [(0, .ref (q 0)), (1, .int x1)] := hl
  show W p l e rxX6_reasonOf s m _ below meth c s.heap [] 0 0 (MQx G (CW G q) A s _ below r) (F0 m 0 ls [])
  unfold pX6_reasonOf at h
  refine lv_aload_n hx hb dX6_reasonOf_0 rfl (lv_at hl 0 rfl) ?_
  refine lv_iload_n hx hb dX6_reasonOf_1 rfl (lv_at hl 1 rfl) ?_
  rcases tb_X h with ⟨er_1, hr_1, h⟩ | ⟨r_1, hr_1, h⟩
  · exact x_prop (Wd := CW G q) (vx_runV (As := [.int x1]) (rest := []) ⟨hx, hb, hml, hown, hts⟩ (xX6_checkFeature l hl0 G q C _ x1 er_1 hr_1) (cwV 1 hts gX6_reasonOf_X6_checkFeature rfl rfl rfl (by decide +kernel) ⟨Nat.le_of_ble_eq_true rfl, Nat.le_of_ble_eq_true rfl⟩) (xV hP hD hS hK hA hE 7 0 rfl rfl) rfl rfl hl.1 rfl (lv_room (Nat.le_of_ble_eq_true rfl)) dX6_reasonOf_2 ⟨Nat.le_of_ble_eq_true rfl, Nat.le_of_ble_eq_true rfl⟩) hD hS hA (fun _ => rfl) hex hlocks h
  refine ro_v (va_runV (As := [.int x1]) (rest := []) ⟨hx, hb, hml, hown, hts⟩ (kX6_checkFeature l G q C x1 r_1 hr_1) (cwV 1 hts gX6_reasonOf_X6_checkFeature rfl rfl rfl (by decide +kernel) ⟨Nat.le_of_ble_eq_true rfl, Nat.le_of_ble_eq_true rfl⟩) (roV hP hK 7 0 rfl rfl) rfl rfl hl.1 rfl (lv_room (Nat.le_of_ble_eq_true rfl)) dX6_reasonOf_2 ⟨Nat.zero_le _, Nat.zero_le _⟩) ?_
  refine lv_aload_n hx hb dX6_reasonOf_5 rfl (lv_at hl 0 rfl) ?_
  obtain ⟨u_2, hu_2, h⟩ := bd_ex h
  refine wr_v (Wd := CW G q) (va_runV (As := []) (rest := []) ⟨hx, hb, hml, hown, hts⟩ (kX6_deduce l G q C _ u_2 hu_2) (cwV 0 hts gX6_reasonOf_X6_deduce rfl rfl rfl (by decide +kernel) ⟨Nat.le_of_ble_eq_true rfl, Nat.le_of_ble_eq_true rfl⟩) (wrV hP hD hK 7 0 rfl rfl) rfl rfl hl.1 rfl (lv_room (Nat.le_of_ble_eq_true rfl)) dX6_reasonOf_6 ⟨Nat.zero_le _, Nat.zero_le _⟩) hD hS hA (fun _ => rfl) (fun H locs hP hD hS => ?_)
  refine lv_aload_n hx hb dX6_reasonOf_9 rfl (lv_at hl 0 rfl) ?_
  refine va_get (D := G.1) (ci := 7) (v := .ref (q 4)) (C := RX6) (T := TX6) (N := 7) hx hb hts in_wsX6_reasonOf_X6 hown hK.1 hP 0 rfl rfl 3 (by decide) (w_mem hts 3 rfl) (fun _ h9 => h9) rfl dX6_reasonOf_10 ?_
  refine lv_iload_n hx hb dX6_reasonOf_13 rfl (lv_at hl 1 rfl) ?_
  obtain ⟨r_3, hr_3, h⟩ := bd_ex h
  refine ro_i (va_runVN (As := [.int x1]) (rest := []) ⟨hx, hb, hml, hown, hts⟩ (kX0_knows l G q u_2 x1 r_3 hr_3) ⟨va_cnB 1 hts gX6_reasonOf_X0_knows_n175 rfl rfl rfl (hK.2.nw 8 rfl) (w_mem hts 20 rfl) (by decide +kernel) ⟨Nat.le_of_ble_eq_true rfl, Nat.le_of_ble_eq_true rfl⟩, (w_mem hts 33 rfl), (w_mem hts 34 rfl)⟩ (roV hP hK 2 4 rfl rfl) rfl rfl hl.1 rfl (lv_room (Nat.le_of_ble_eq_true rfl)) dX6_reasonOf_14 ⟨Nat.zero_le _, Nat.zero_le _⟩) ?_
  refine lv_if_ne (tgt := 30) hx hb dX6_reasonOf_17 (by decide) (fun c_17 => ?_) (fun c_17 => ?_)
  · have h := br_F h c_17
    refine lv_aload_n hx hb dX6_reasonOf_30 rfl (lv_at hl 0 rfl) ?_
    refine va_get (D := G.1) (ci := 7) (v := .ref (q 4)) (C := RX6) (T := TX6) (N := 7) hx hb hts in_wsX6_reasonOf_X6 hown hK.1 hP 0 rfl rfl 3 (by decide) (w_mem hts 3 rfl) (fun _ h9 => h9) rfl dX6_reasonOf_31 ?_
    refine va_getN (D := G.1) (ci := 2) (v := .ref (q 17)) (C := RX0) (T := TX0) (N := 4) hx hb hts in_wsX6_reasonOf_X0 hown hK.1 hP 4 rfl rfl 0 (by decide) (hK.2.at 42 rfl) (fun _ h9 => h9) rfl dX6_reasonOf_34 ?_
    refine lv_iload_n hx hb dX6_reasonOf_37 rfl (lv_at hl 1 rfl) ?_
    obtain ⟨g38, h⟩ := gd_ex h
    refine va_cald (D := G.1) hx hb hK.1 hP 17 1 rfl rfl g38 dX6_reasonOf_38 ?_
    obtain ⟨g39, h⟩ := gd_ex h
    cases h
  · have h := br_T h c_17
    exact x_throwN (Wd := CW G q) (C := u_2) (text := "the feature is unknown") hx hb hl0 hts hown hml hlocks hex hK hE hP hS hl (w_mem hts 1 rfl) (w_mem hts 2 rfl) (List.mem_of_getElem? (i := 7) rfl) (fun w h => List.mem_cons_of_mem _ (List.mem_append_left _ (List.mem_append_right _ h))) dX6_reasonOf_20 dX6_reasonOf_23 dX6_reasonOf_24 dX6_reasonOf_26 dX6_reasonOf_29 ⟨Nat.le_of_ble_eq_true rfl, Nat.le_of_ble_eq_true rfl, Nat.le_of_ble_eq_true rfl, Nat.le_of_ble_eq_true rfl⟩ ((xl_ h).symm)

def rmX6_reasonRule : Room := { frames := 6, cells := 0, slots := 0, locals := 139 }

theorem in_wsX6_reasonRule_X6 : ∀ w ∈ u_ws RX6 TX6 7, w ∈ wsX6_reasonRule := by decide +kernel

theorem in_wsX6_reasonRule_X0 : ∀ w ∈ u_ws RX0 TX0 4, w ∈ wsX6_reasonRule := by decide +kernel

set_option maxHeartbeats 4000000 in
set_option maxRecDepth 100000 in
theorem wX6_reasonRule_34 {p : Program} {l : Launch} {e : Env} {s : State} {m : MethodId} {args : Array Value} {below : List Frame} {meth : Method} {c : Code} {G : GT} {q : Nat → Nat} {A : Nat → Prop} {out : Int32 × St} (bx : BX p RX6 wsX6_reasonRule cX6_reasonRule 2 (some .int) s m args meth c) (hA : ∀ q : Nat, s.heap.size ≤ q → A q) (hK : CK G s) (C : St) (h : pX6_reasonRule_34 C = some (.inr out)) {H : Heap} {locs : List Loc} (hP : va_P G.1 vwCl (CW G q C) H) (hD : va_D A (CW G q C)) (hS : va_S A s.heap H locs) (ls : Array Slot) (hl : lv_has ls 2 []) : W p l e rmX6_reasonRule s m args below meth c H locs 0 0 (MQi G (CW G q) A s args below out) (F0 m 34 ls []) := by
  obtain ⟨hx, hb, hr, hts, hown, hml, hlocks⟩ := id bx
  unfold pX6_reasonRule_34 at h
  cases h

set_option maxHeartbeats 4000000 in
set_option maxRecDepth 100000 in
theorem kX6_reasonRule (l : Launch) (G : GT) (q : Nat → Nat) (C : St) (sz : Nat) (x1 : Int32) (r : Int32 × St) (h : pX6_reasonRule C x1 = some (.inr r)) : Met l yX6_reasonRule wsX6_reasonRule rmX6_reasonRule (va_Pc [.ref (q 0), .int x1] (wrP G (CW G q C) sz)) (va_Qi (fun v u => (v, u) = r) (fun u t => va_P G.1 vwCl (CW G q u) t.heap) (va_A (CW G q C) sz)) 0 0 (va_A (CW G q C) sz) := by
  refine Met.ofW (cc := cX6_reasonRule) (maxL := 2) (ret := (some .int)) (by decide) rfl ?_
  intro p e s m args below meth c s₁ B hml hv
  obtain ⟨rfl, hsz, hP, hK, hD0⟩ := hv
  have bx := bx_of B hml
  subst hsz
  have hD := hD0.self (sz := s.heap.size)
  generalize hAe : va_A (CW G q C) s.heap.size = A at hD ⊢
  have hA : ∀ q : Nat, s.heap.size ≤ q → A q := fun q h => by rw [← hAe]; exact Or.inr h
  have hS : va_S A s.heap s.heap [] := va_S.rf
  obtain ⟨hx, hb, hr, hts, hown, hml, hlocks⟩ := id bx
  have hl := lv_entry ([.ref (q 0), .int x1]) (n := 2) (Nat.le_of_ble_eq_true rfl)
  rw [lg_entry_eq]
  generalize (lg_sl ([.ref (q 0), .int x1]) ++ List.replicate (2 - (lg_sl ([.ref (q 0), .int x1])).length) Slot.unset).toArray = ls at hl ⊢
  have hl : lv_has ls 2 [(0, .ref (q 0)), (1, .int x1)] := hl
  show W p l e rmX6_reasonRule s m _ below meth c s.heap [] 0 0 (MQi G (CW G q) A s _ below r) (F0 m 0 ls [])
  unfold pX6_reasonRule at h
  refine lv_aload_n hx hb dX6_reasonRule_0 rfl (lv_at hl 0 rfl) ?_
  refine lv_iload_n hx hb dX6_reasonRule_1 rfl (lv_at hl 1 rfl) ?_
  obtain ⟨r_1, hr_1, h⟩ := tb_N h
  refine ro_v (va_runV (As := [.int x1]) (rest := []) ⟨hx, hb, hml, hown, hts⟩ (kX6_checkFeature l G q C x1 r_1 hr_1) (cwV 1 hts gX6_reasonRule_X6_checkFeature rfl rfl rfl (by decide +kernel) ⟨Nat.le_of_ble_eq_true rfl, Nat.le_of_ble_eq_true rfl⟩) (roV hP hK 7 0 rfl rfl) rfl rfl hl.1 rfl (lv_room (Nat.le_of_ble_eq_true rfl)) dX6_reasonRule_2 ⟨Nat.zero_le _, Nat.zero_le _⟩) ?_
  refine lv_aload_n hx hb dX6_reasonRule_5 rfl (lv_at hl 0 rfl) ?_
  obtain ⟨u_2, hu_2, h⟩ := bd_ex h
  refine wr_v (Wd := CW G q) (va_runV (As := []) (rest := []) ⟨hx, hb, hml, hown, hts⟩ (kX6_deduce l G q C _ u_2 hu_2) (cwV 0 hts gX6_reasonRule_X6_deduce rfl rfl rfl (by decide +kernel) ⟨Nat.le_of_ble_eq_true rfl, Nat.le_of_ble_eq_true rfl⟩) (wrV hP hD hK 7 0 rfl rfl) rfl rfl hl.1 rfl (lv_room (Nat.le_of_ble_eq_true rfl)) dX6_reasonRule_6 ⟨Nat.zero_le _, Nat.zero_le _⟩) hD hS hA (fun _ => rfl) (fun H locs hP hD hS => ?_)
  refine lv_aload_n hx hb dX6_reasonRule_9 rfl (lv_at hl 0 rfl) ?_
  refine va_get (D := G.1) (ci := 7) (v := .ref (q 4)) (C := RX6) (T := TX6) (N := 7) hx hb hts in_wsX6_reasonRule_X6 hown hK.1 hP 0 rfl rfl 3 (by decide) (w_mem hts 3 rfl) (fun _ h9 => h9) rfl dX6_reasonRule_10 ?_
  refine lv_iload_n hx hb dX6_reasonRule_13 rfl (lv_at hl 1 rfl) ?_
  obtain ⟨r_3, hr_3, h⟩ := bd_ex h
  refine ro_i (va_runVN (As := [.int x1]) (rest := []) ⟨hx, hb, hml, hown, hts⟩ (kX0_knows l G q u_2 x1 r_3 hr_3) ⟨va_cnB 1 hts gX6_reasonRule_X0_knows_n175 rfl rfl rfl (hK.2.nw 8 rfl) (w_mem hts 20 rfl) (by decide +kernel) ⟨Nat.le_of_ble_eq_true rfl, Nat.le_of_ble_eq_true rfl⟩, (w_mem hts 33 rfl), (w_mem hts 34 rfl)⟩ (roV hP hK 2 4 rfl rfl) rfl rfl hl.1 rfl (lv_room (Nat.le_of_ble_eq_true rfl)) dX6_reasonRule_14 ⟨Nat.zero_le _, Nat.zero_le _⟩) ?_
  refine lv_if_eq (tgt := 34) hx hb dX6_reasonRule_17 (by decide) (fun c_17 => ?_) (fun c_17 => ?_)
  · have h := br_T h c_17
    exact wX6_reasonRule_34 bx hA hK u_2 h hP hD hS _ (lv_sub hl [] rfl)
  · have h := br_F h c_17
    refine lv_aload_n hx hb dX6_reasonRule_20 rfl (lv_at hl 0 rfl) ?_
    refine va_get (D := G.1) (ci := 7) (v := .ref (q 4)) (C := RX6) (T := TX6) (N := 7) hx hb hts in_wsX6_reasonRule_X6 hown hK.1 hP 0 rfl rfl 3 (by decide) (w_mem hts 3 rfl) (fun _ h9 => h9) rfl dX6_reasonRule_21 ?_
    refine va_getN (D := G.1) (ci := 2) (v := .ref (q 17)) (C := RX0) (T := TX0) (N := 4) hx hb hts in_wsX6_reasonRule_X0 hown hK.1 hP 4 rfl rfl 0 (by decide) (hK.2.at 42 rfl) (fun _ h9 => h9) rfl dX6_reasonRule_24 ?_
    refine lv_iload_n hx hb dX6_reasonRule_27 rfl (lv_at hl 1 rfl) ?_
    obtain ⟨g28, h⟩ := gd_ex h
    refine va_cald (D := G.1) hx hb hK.1 hP 17 1 rfl rfl g28 dX6_reasonRule_28 ?_
    refine lv_bipush (v := 114) hx hb dX6_reasonRule_29 (by decide) ?_
    refine lv_icmp_eq (tgt := 44) hx hb dX6_reasonRule_31 (by decide) (fun c_31 => ?_) (fun c_31 => ?_)
    · have h := br_T h c_31
      refine lv_aload_n hx hb dX6_reasonRule_44 rfl (lv_at hl 0 rfl) ?_
      refine va_get (D := G.1) (ci := 7) (v := .ref (q 4)) (C := RX6) (T := TX6) (N := 7) hx hb hts in_wsX6_reasonRule_X6 hown hK.1 hP 0 rfl rfl 3 (by decide) (w_mem hts 3 rfl) (fun _ h9 => h9) rfl dX6_reasonRule_45 ?_
      refine va_getN (D := G.1) (ci := 2) (v := .ref (q 18)) (C := RX0) (T := TX0) (N := 4) hx hb hts in_wsX6_reasonRule_X0 hown hK.1 hP 4 rfl rfl 1 (by decide) (hK.2.at 43 rfl) (fun _ h9 => h9) rfl dX6_reasonRule_48 ?_
      refine lv_iload_n hx hb dX6_reasonRule_51 rfl (lv_at hl 1 rfl) ?_
      obtain ⟨g52, h⟩ := gd_ex h
      refine va_iald (D := G.1) hx hb hK.1 hP 18 0 rfl rfl g52 dX6_reasonRule_52 ?_
      exact MQi.end hx hb hr hlocks hP hS dX6_reasonRule_53 rfl (nn_ h)
    · have h := br_F h c_31
      exact wX6_reasonRule_34 bx hA hK u_2 h hP hD hS _ (lv_sub hl [] rfl)

def rxX6_reasonRule : Room := { frames := 7, cells := 1, slots := 6, locals := 139 }

set_option maxHeartbeats 4000000 in
set_option maxRecDepth 100000 in
theorem xX6_reasonRule_34 {p : Program} {l : Launch} {e : Env} {s : State} {m : MethodId} {args : Array Value} {below : List Frame} {meth : Method} {c : Code} {G : GT} {q : Nat → Nat} {A : Nat → Prop} {out : Nat × St} (bx : BX p RX6 wsX6_reasonRule cX6_reasonRule 2 (some .int) s m args meth c) (hA : ∀ q : Nat, s.heap.size ≤ q → A q) (hK : CK G s) (hl0 : l.stackTraces = false) (hE : XE A s) (hex : ∀ x ∈ c.exceptionTable.toList, False) (C : St) (h : pX6_reasonRule_34 C = some (.inl out)) {H : Heap} {locs : List Loc} (hP : va_P G.1 vwCl (CW G q C) H) (hD : va_D A (CW G q C)) (hS : va_S A s.heap H locs) (ls : Array Slot) (hl : lv_has ls 2 []) : W p l e rxX6_reasonRule s m args below meth c H locs 0 0 (MQx G (CW G q) A s args below out) (F0 m 34 ls []) := by
  obtain ⟨hx, hb, hr, hts, hown, hml, hlocks⟩ := id bx
  unfold pX6_reasonRule_34 at h
  exact x_throwN (Wd := CW G q) (C := C) (text := "the feature did not become known by a rule") hx hb hl0 hts hown hml hlocks hex hK hE hP hS hl (w_mem hts 1 rfl) (w_mem hts 2 rfl) (List.mem_of_getElem? (i := 8) rfl) (fun w h => List.mem_cons_of_mem _ (List.mem_append_left _ (List.mem_append_right _ h))) dX6_reasonRule_34 dX6_reasonRule_37 dX6_reasonRule_38 dX6_reasonRule_40 dX6_reasonRule_43 ⟨Nat.le_of_ble_eq_true rfl, Nat.le_of_ble_eq_true rfl, Nat.le_of_ble_eq_true rfl, Nat.le_of_ble_eq_true rfl⟩ ((xl_ h).symm)

set_option maxHeartbeats 4000000 in
set_option maxRecDepth 100000 in
theorem xX6_reasonRule (l : Launch) (hl0 : l.stackTraces = false) (G : GT) (q : Nat → Nat) (C : St) (sz : Nat) (x1 : Int32) (r : Nat × St) (h : pX6_reasonRule C x1 = some (.inl r)) : vx_Met l yX6_reasonRule wsX6_reasonRule rxX6_reasonRule (va_Pc [.ref (q 0), .int x1] (xP G (CW G q C) sz)) (fun _ _ _ _ => False) (XCf G (CW G q) (va_A (CW G q C) sz) r) 1 6 (va_A (CW G q C) sz) := by
  refine vx_ofW (cc := cX6_reasonRule) (maxL := 2) (ret := (some .int)) (by decide) rfl ?_
  intro p e s m args below meth c s₁ B hml hex hv
  obtain ⟨rfl, ⟨hsz, hP, hK, hD0⟩, hE⟩ := hv
  have bx := bx_of B hml
  subst hsz
  have hD := hD0.self (sz := s.heap.size)
  generalize hAe : va_A (CW G q C) s.heap.size = A at hD hE ⊢
  have hA : ∀ q : Nat, s.heap.size ≤ q → A q := fun q h => by rw [← hAe]; exact Or.inr h
  have hS : va_S A s.heap s.heap [] := va_S.rf
  obtain ⟨hx, hb, hr, hts, hown, hml, hlocks⟩ := id bx
  have hl := lv_entry ([.ref (q 0), .int x1]) (n := 2) (Nat.le_of_ble_eq_true rfl)
  rw [lg_entry_eq]
  generalize (lg_sl ([.ref (q 0), .int x1]) ++ List.replicate (2 - (lg_sl ([.ref (q 0), .int x1])).length) Slot.unset).toArray = ls at hl ⊢
  have hl : lv_has ls 2 [(0, .ref (q 0)), (1, .int x1)] := hl
  show W p l e rxX6_reasonRule s m _ below meth c s.heap [] 0 0 (MQx G (CW G q) A s _ below r) (F0 m 0 ls [])
  unfold pX6_reasonRule at h
  refine lv_aload_n hx hb dX6_reasonRule_0 rfl (lv_at hl 0 rfl) ?_
  refine lv_iload_n hx hb dX6_reasonRule_1 rfl (lv_at hl 1 rfl) ?_
  rcases tb_X h with ⟨er_1, hr_1, h⟩ | ⟨r_1, hr_1, h⟩
  · exact x_prop (Wd := CW G q) (vx_runV (As := [.int x1]) (rest := []) ⟨hx, hb, hml, hown, hts⟩ (xX6_checkFeature l hl0 G q C _ x1 er_1 hr_1) (cwV 1 hts gX6_reasonRule_X6_checkFeature rfl rfl rfl (by decide +kernel) ⟨Nat.le_of_ble_eq_true rfl, Nat.le_of_ble_eq_true rfl⟩) (xV hP hD hS hK hA hE 7 0 rfl rfl) rfl rfl hl.1 rfl (lv_room (Nat.le_of_ble_eq_true rfl)) dX6_reasonRule_2 ⟨Nat.le_of_ble_eq_true rfl, Nat.le_of_ble_eq_true rfl⟩) hD hS hA (fun _ => rfl) hex hlocks h
  refine ro_v (va_runV (As := [.int x1]) (rest := []) ⟨hx, hb, hml, hown, hts⟩ (kX6_checkFeature l G q C x1 r_1 hr_1) (cwV 1 hts gX6_reasonRule_X6_checkFeature rfl rfl rfl (by decide +kernel) ⟨Nat.le_of_ble_eq_true rfl, Nat.le_of_ble_eq_true rfl⟩) (roV hP hK 7 0 rfl rfl) rfl rfl hl.1 rfl (lv_room (Nat.le_of_ble_eq_true rfl)) dX6_reasonRule_2 ⟨Nat.zero_le _, Nat.zero_le _⟩) ?_
  refine lv_aload_n hx hb dX6_reasonRule_5 rfl (lv_at hl 0 rfl) ?_
  obtain ⟨u_2, hu_2, h⟩ := bd_ex h
  refine wr_v (Wd := CW G q) (va_runV (As := []) (rest := []) ⟨hx, hb, hml, hown, hts⟩ (kX6_deduce l G q C _ u_2 hu_2) (cwV 0 hts gX6_reasonRule_X6_deduce rfl rfl rfl (by decide +kernel) ⟨Nat.le_of_ble_eq_true rfl, Nat.le_of_ble_eq_true rfl⟩) (wrV hP hD hK 7 0 rfl rfl) rfl rfl hl.1 rfl (lv_room (Nat.le_of_ble_eq_true rfl)) dX6_reasonRule_6 ⟨Nat.zero_le _, Nat.zero_le _⟩) hD hS hA (fun _ => rfl) (fun H locs hP hD hS => ?_)
  refine lv_aload_n hx hb dX6_reasonRule_9 rfl (lv_at hl 0 rfl) ?_
  refine va_get (D := G.1) (ci := 7) (v := .ref (q 4)) (C := RX6) (T := TX6) (N := 7) hx hb hts in_wsX6_reasonRule_X6 hown hK.1 hP 0 rfl rfl 3 (by decide) (w_mem hts 3 rfl) (fun _ h9 => h9) rfl dX6_reasonRule_10 ?_
  refine lv_iload_n hx hb dX6_reasonRule_13 rfl (lv_at hl 1 rfl) ?_
  obtain ⟨r_3, hr_3, h⟩ := bd_ex h
  refine ro_i (va_runVN (As := [.int x1]) (rest := []) ⟨hx, hb, hml, hown, hts⟩ (kX0_knows l G q u_2 x1 r_3 hr_3) ⟨va_cnB 1 hts gX6_reasonRule_X0_knows_n175 rfl rfl rfl (hK.2.nw 8 rfl) (w_mem hts 20 rfl) (by decide +kernel) ⟨Nat.le_of_ble_eq_true rfl, Nat.le_of_ble_eq_true rfl⟩, (w_mem hts 33 rfl), (w_mem hts 34 rfl)⟩ (roV hP hK 2 4 rfl rfl) rfl rfl hl.1 rfl (lv_room (Nat.le_of_ble_eq_true rfl)) dX6_reasonRule_14 ⟨Nat.zero_le _, Nat.zero_le _⟩) ?_
  refine lv_if_eq (tgt := 34) hx hb dX6_reasonRule_17 (by decide) (fun c_17 => ?_) (fun c_17 => ?_)
  · have h := br_T h c_17
    exact xX6_reasonRule_34 bx hA hK hl0 hE hex u_2 h hP hD hS _ (lv_sub hl [] rfl)
  · have h := br_F h c_17
    refine lv_aload_n hx hb dX6_reasonRule_20 rfl (lv_at hl 0 rfl) ?_
    refine va_get (D := G.1) (ci := 7) (v := .ref (q 4)) (C := RX6) (T := TX6) (N := 7) hx hb hts in_wsX6_reasonRule_X6 hown hK.1 hP 0 rfl rfl 3 (by decide) (w_mem hts 3 rfl) (fun _ h9 => h9) rfl dX6_reasonRule_21 ?_
    refine va_getN (D := G.1) (ci := 2) (v := .ref (q 17)) (C := RX0) (T := TX0) (N := 4) hx hb hts in_wsX6_reasonRule_X0 hown hK.1 hP 4 rfl rfl 0 (by decide) (hK.2.at 42 rfl) (fun _ h9 => h9) rfl dX6_reasonRule_24 ?_
    refine lv_iload_n hx hb dX6_reasonRule_27 rfl (lv_at hl 1 rfl) ?_
    obtain ⟨g28, h⟩ := gd_ex h
    refine va_cald (D := G.1) hx hb hK.1 hP 17 1 rfl rfl g28 dX6_reasonRule_28 ?_
    refine lv_bipush (v := 114) hx hb dX6_reasonRule_29 (by decide) ?_
    refine lv_icmp_eq (tgt := 44) hx hb dX6_reasonRule_31 (by decide) (fun c_31 => ?_) (fun c_31 => ?_)
    · have h := br_T h c_31
      refine lv_aload_n hx hb dX6_reasonRule_44 rfl (lv_at hl 0 rfl) ?_
      refine va_get (D := G.1) (ci := 7) (v := .ref (q 4)) (C := RX6) (T := TX6) (N := 7) hx hb hts in_wsX6_reasonRule_X6 hown hK.1 hP 0 rfl rfl 3 (by decide) (w_mem hts 3 rfl) (fun _ h9 => h9) rfl dX6_reasonRule_45 ?_
      refine va_getN (D := G.1) (ci := 2) (v := .ref (q 18)) (C := RX0) (T := TX0) (N := 4) hx hb hts in_wsX6_reasonRule_X0 hown hK.1 hP 4 rfl rfl 1 (by decide) (hK.2.at 43 rfl) (fun _ h9 => h9) rfl dX6_reasonRule_48 ?_
      refine lv_iload_n hx hb dX6_reasonRule_51 rfl (lv_at hl 1 rfl) ?_
      obtain ⟨g52, h⟩ := gd_ex h
      refine va_iald (D := G.1) hx hb hK.1 hP 18 0 rfl rfl g52 dX6_reasonRule_52 ?_
      cases h
    · have h := br_F h c_31
      exact xX6_reasonRule_34 bx hA hK hl0 hE hex u_2 h hP hD hS _ (lv_sub hl [] rfl)

def rmX6_addBundle : Room := { frames := 2, cells := 0, slots := 0, locals := 46 }

set_option maxHeartbeats 4000000 in
set_option maxRecDepth 100000 in
theorem wX6_addBundle_21 {p : Program} {l : Launch} {e : Env} {s : State} {m : MethodId} {args : Array Value} {below : List Frame} {meth : Method} {c : Code} {G : GT} {q : Nat → Nat} {A : Nat → Prop} {out : Int32 × St} (bx : BX p RX6 wsX6_addBundle cX6_addBundle 4 (some .int) s m args meth c) (hA : ∀ q : Nat, s.heap.size ≤ q → A q) (hK : CK G s) (C : St) (h : pX6_addBundle_21 C = some (.inr out)) {H : Heap} {locs : List Loc} (hP : va_P G.1 vwCl (CW G q C) H) (hD : va_D A (CW G q C)) (hS : va_S A s.heap H locs) (ls : Array Slot) (hl : lv_has ls 4 []) : W p l e rmX6_addBundle s m args below meth c H locs 0 0 (MQi G (CW G q) A s args below out) (F0 m 21 ls []) := by
  obtain ⟨hx, hb, hr, hts, hown, hml, hlocks⟩ := id bx
  unfold pX6_addBundle_21 at h
  cases h

set_option maxHeartbeats 4000000 in
set_option maxRecDepth 100000 in
theorem kX6_addBundle (l : Launch) (G : GT) (q : Nat → Nat) (C : St) (sz : Nat) (x1 : Int32) (x2 : Int32) (x3 : Int32) (r : Int32 × St) (h : pX6_addBundle C x1 x2 x3 = some (.inr r)) : Met l yX6_addBundle wsX6_addBundle rmX6_addBundle (va_Pc [.ref (q 0), .int x1, .int x2, .int x3] (wrP G (CW G q C) sz)) (va_Qi (fun v u => (v, u) = r) (fun u t => va_P G.1 vwCl (CW G q u) t.heap) (va_A (CW G q C) sz)) 0 0 (va_A (CW G q C) sz) := by
  refine Met.ofW (cc := cX6_addBundle) (maxL := 4) (ret := (some .int)) (by decide) rfl ?_
  intro p e s m args below meth c s₁ B hml hv
  obtain ⟨rfl, hsz, hP, hK, hD0⟩ := hv
  have bx := bx_of B hml
  subst hsz
  have hD := hD0.self (sz := s.heap.size)
  generalize hAe : va_A (CW G q C) s.heap.size = A at hD ⊢
  have hA : ∀ q : Nat, s.heap.size ≤ q → A q := fun q h => by rw [← hAe]; exact Or.inr h
  have hS : va_S A s.heap s.heap [] := va_S.rf
  obtain ⟨hx, hb, hr, hts, hown, hml, hlocks⟩ := id bx
  have hl := lv_entry ([.ref (q 0), .int x1, .int x2, .int x3]) (n := 4) (Nat.le_of_ble_eq_true rfl)
  rw [lg_entry_eq]
  generalize (lg_sl ([.ref (q 0), .int x1, .int x2, .int x3]) ++ List.replicate (4 - (lg_sl ([.ref (q 0), .int x1, .int x2, .int x3])).length) Slot.unset).toArray = ls at hl ⊢
  have hl : lv_has ls 4 [(0, .ref (q 0)), (1, .int x1), (2, .int x2), (3, .int x3)] := hl
  show W p l e rmX6_addBundle s m _ below meth c s.heap [] 0 0 (MQi G (CW G q) A s _ below r) (F0 m 0 ls [])
  unfold pX6_addBundle at h
  refine lv_aload_n hx hb dX6_addBundle_0 rfl (lv_at hl 0 rfl) ?_
  refine lv_iload_n hx hb dX6_addBundle_1 rfl (lv_at hl 1 rfl) ?_
  obtain ⟨r_1, hr_1, h⟩ := tb_N h
  refine ro_v (va_runV (As := [.int x1]) (rest := []) ⟨hx, hb, hml, hown, hts⟩ (kX6_checkFeature l G q C x1 r_1 hr_1) (cwV 1 hts gX6_addBundle_X6_checkFeature rfl rfl rfl (by decide +kernel) ⟨Nat.le_of_ble_eq_true rfl, Nat.le_of_ble_eq_true rfl⟩) (roV hP hK 7 0 rfl rfl) rfl rfl hl.1 rfl (lv_room (Nat.le_of_ble_eq_true rfl)) dX6_addBundle_2 ⟨Nat.zero_le _, Nat.zero_le _⟩) ?_
  refine lv_aload_n hx hb dX6_addBundle_5 rfl (lv_at hl 0 rfl) ?_
  refine lv_iload_n hx hb dX6_addBundle_6 rfl (lv_at hl 2 rfl) ?_
  obtain ⟨r_2, hr_2, h⟩ := tb_N h
  refine ro_v (va_runV (As := [.int x2]) (rest := []) ⟨hx, hb, hml, hown, hts⟩ (kX6_checkFeature l G q C x2 r_2 hr_2) (cwV 1 hts gX6_addBundle_X6_checkFeature rfl rfl rfl (by decide +kernel) ⟨Nat.le_of_ble_eq_true rfl, Nat.le_of_ble_eq_true rfl⟩) (roV hP hK 7 0 rfl rfl) rfl rfl hl.1 rfl (lv_room (Nat.le_of_ble_eq_true rfl)) dX6_addBundle_7 ⟨Nat.zero_le _, Nat.zero_le _⟩) ?_
  refine lv_iload_n hx hb dX6_addBundle_10 rfl (lv_at hl 3 rfl) ?_
  refine lv_if_lt (tgt := 21) hx hb dX6_addBundle_11 (by decide) (fun c_11 => ?_) (fun c_11 => ?_)
  · have h := br_T h c_11
    exact wX6_addBundle_21 bx hA hK C h hP hD hS _ (lv_sub hl [] rfl)
  · have h := br_F h c_11
    refine lv_iload_n hx hb dX6_addBundle_14 rfl (lv_at hl 3 rfl) ?_
    refine lv_sipush (v := 999) hx hb dX6_addBundle_15 (by decide) ?_
    refine lv_icmp_le (tgt := 31) hx hb dX6_addBundle_18 (by decide) (fun c_18 => ?_) (fun c_18 => ?_)
    · have h := br_T h c_18
      refine lv_aload_n hx hb dX6_addBundle_31 rfl (lv_at hl 0 rfl) ?_
      refine lv_iconst (v := 0) hx hb dX6_addBundle_32 (by decide) ?_
      refine lv_iconst (v := 1) hx hb dX6_addBundle_33 (by decide) ?_
      refine lv_iload_n hx hb dX6_addBundle_34 rfl (lv_at hl 1 rfl) ?_
      refine lv_ishl hx hb dX6_addBundle_35 ?_
      refine lv_iconst (v := 1) hx hb dX6_addBundle_36 (by decide) ?_
      refine lv_iload_n hx hb dX6_addBundle_37 rfl (lv_at hl 2 rfl) ?_
      refine lv_ishl hx hb dX6_addBundle_38 ?_
      refine lv_ior hx hb dX6_addBundle_39 ?_
      refine lv_iload_n hx hb dX6_addBundle_40 rfl (lv_at hl 3 rfl) ?_
      obtain ⟨u_3, hu_3, h⟩ := tb_N h
      refine wr_i (Wd := CW G q) (va_runV (As := [.int 0, .int (((1 : Int32) <<< (x1 &&& 31)) ||| ((1 : Int32) <<< (x2 &&& 31))), .int x3]) (rest := []) ⟨hx, hb, hml, hown, hts⟩ (kX6_addLayer l G q C _ 0 (((1 : Int32) <<< (x1 &&& 31)) ||| ((1 : Int32) <<< (x2 &&& 31))) x3 u_3 hu_3) (cwV 3 hts gX6_addBundle_X6_addLayer rfl rfl rfl (by decide +kernel) ⟨Nat.le_of_ble_eq_true rfl, Nat.le_of_ble_eq_true rfl⟩) (wrV hP hD hK 7 0 rfl rfl) rfl rfl hl.1 rfl (lv_room (Nat.le_of_ble_eq_true rfl)) dX6_addBundle_41 ⟨Nat.zero_le _, Nat.zero_le _⟩) hD hS hA (fun _ => rfl) (fun H locs hP hD hS => ?_)
      exact MQi.end hx hb hr hlocks hP hS dX6_addBundle_44 rfl (nn_ h)
    · have h := br_F h c_18
      exact wX6_addBundle_21 bx hA hK C h hP hD hS _ (lv_sub hl [] rfl)

def rxX6_addBundle : Room := { frames := 7, cells := 1, slots := 6, locals := 123 }

set_option maxHeartbeats 4000000 in
set_option maxRecDepth 100000 in
theorem xX6_addBundle_21 {p : Program} {l : Launch} {e : Env} {s : State} {m : MethodId} {args : Array Value} {below : List Frame} {meth : Method} {c : Code} {G : GT} {q : Nat → Nat} {A : Nat → Prop} {out : Nat × St} (bx : BX p RX6 wsX6_addBundle cX6_addBundle 4 (some .int) s m args meth c) (hA : ∀ q : Nat, s.heap.size ≤ q → A q) (hK : CK G s) (hl0 : l.stackTraces = false) (hE : XE A s) (hex : ∀ x ∈ c.exceptionTable.toList, False) (C : St) (h : pX6_addBundle_21 C = some (.inl out)) {H : Heap} {locs : List Loc} (hP : va_P G.1 vwCl (CW G q C) H) (hD : va_D A (CW G q C)) (hS : va_S A s.heap H locs) (ls : Array Slot) (hl : lv_has ls 4 []) : W p l e rxX6_addBundle s m args below meth c H locs 0 0 (MQx G (CW G q) A s args below out) (F0 m 21 ls []) := by
  obtain ⟨hx, hb, hr, hts, hown, hml, hlocks⟩ := id bx
  unfold pX6_addBundle_21 at h
  exact x_throwS (Wd := CW G q) (C := C) (k := 2) (cls := "java/lang/IllegalArgumentException") (text := "the discount is out of range") hx hb hl0 hts hown hml hlocks hex hK hE hP hS hl (by decide +kernel) (w_mem hts 1 rfl) (w_mem hts 2 rfl) (List.mem_of_getElem? (i := 9) rfl) (fun w h => List.mem_cons_of_mem _ (List.mem_append_left _ (List.mem_append_left _ (List.mem_append_right _ h)))) xB_52 xG_52_48 dX6_addBundle_21 dX6_addBundle_24 dX6_addBundle_25 dX6_addBundle_27 dX6_addBundle_30 ⟨Nat.le_of_ble_eq_true rfl, Nat.le_of_ble_eq_true rfl, Nat.le_of_ble_eq_true rfl, Nat.le_of_ble_eq_true rfl⟩ ((xl_ h).symm) rfl

set_option maxHeartbeats 4000000 in
set_option maxRecDepth 100000 in
theorem xX6_addBundle (l : Launch) (hl0 : l.stackTraces = false) (G : GT) (q : Nat → Nat) (C : St) (sz : Nat) (x1 : Int32) (x2 : Int32) (x3 : Int32) (r : Nat × St) (h : pX6_addBundle C x1 x2 x3 = some (.inl r)) : vx_Met l yX6_addBundle wsX6_addBundle rxX6_addBundle (va_Pc [.ref (q 0), .int x1, .int x2, .int x3] (xP G (CW G q C) sz)) (fun _ _ _ _ => False) (XCf G (CW G q) (va_A (CW G q C) sz) r) 1 6 (va_A (CW G q C) sz) := by
  refine vx_ofW (cc := cX6_addBundle) (maxL := 4) (ret := (some .int)) (by decide) rfl ?_
  intro p e s m args below meth c s₁ B hml hex hv
  obtain ⟨rfl, ⟨hsz, hP, hK, hD0⟩, hE⟩ := hv
  have bx := bx_of B hml
  subst hsz
  have hD := hD0.self (sz := s.heap.size)
  generalize hAe : va_A (CW G q C) s.heap.size = A at hD hE ⊢
  have hA : ∀ q : Nat, s.heap.size ≤ q → A q := fun q h => by rw [← hAe]; exact Or.inr h
  have hS : va_S A s.heap s.heap [] := va_S.rf
  obtain ⟨hx, hb, hr, hts, hown, hml, hlocks⟩ := id bx
  have hl := lv_entry ([.ref (q 0), .int x1, .int x2, .int x3]) (n := 4) (Nat.le_of_ble_eq_true rfl)
  rw [lg_entry_eq]
  generalize (lg_sl ([.ref (q 0), .int x1, .int x2, .int x3]) ++ List.replicate (4 - (lg_sl ([.ref (q 0), .int x1, .int x2, .int x3])).length) Slot.unset).toArray = ls at hl ⊢
  have hl : lv_has ls 4 [(0, .ref (q 0)), (1, .int x1), (2, .int x2), (3, .int x3)] := hl
  show W p l e rxX6_addBundle s m _ below meth c s.heap [] 0 0 (MQx G (CW G q) A s _ below r) (F0 m 0 ls [])
  unfold pX6_addBundle at h
  refine lv_aload_n hx hb dX6_addBundle_0 rfl (lv_at hl 0 rfl) ?_
  refine lv_iload_n hx hb dX6_addBundle_1 rfl (lv_at hl 1 rfl) ?_
  rcases tb_X h with ⟨er_1, hr_1, h⟩ | ⟨r_1, hr_1, h⟩
  · exact x_prop (Wd := CW G q) (vx_runV (As := [.int x1]) (rest := []) ⟨hx, hb, hml, hown, hts⟩ (xX6_checkFeature l hl0 G q C _ x1 er_1 hr_1) (cwV 1 hts gX6_addBundle_X6_checkFeature rfl rfl rfl (by decide +kernel) ⟨Nat.le_of_ble_eq_true rfl, Nat.le_of_ble_eq_true rfl⟩) (xV hP hD hS hK hA hE 7 0 rfl rfl) rfl rfl hl.1 rfl (lv_room (Nat.le_of_ble_eq_true rfl)) dX6_addBundle_2 ⟨Nat.le_of_ble_eq_true rfl, Nat.le_of_ble_eq_true rfl⟩) hD hS hA (fun _ => rfl) hex hlocks h
  refine ro_v (va_runV (As := [.int x1]) (rest := []) ⟨hx, hb, hml, hown, hts⟩ (kX6_checkFeature l G q C x1 r_1 hr_1) (cwV 1 hts gX6_addBundle_X6_checkFeature rfl rfl rfl (by decide +kernel) ⟨Nat.le_of_ble_eq_true rfl, Nat.le_of_ble_eq_true rfl⟩) (roV hP hK 7 0 rfl rfl) rfl rfl hl.1 rfl (lv_room (Nat.le_of_ble_eq_true rfl)) dX6_addBundle_2 ⟨Nat.zero_le _, Nat.zero_le _⟩) ?_
  refine lv_aload_n hx hb dX6_addBundle_5 rfl (lv_at hl 0 rfl) ?_
  refine lv_iload_n hx hb dX6_addBundle_6 rfl (lv_at hl 2 rfl) ?_
  rcases tb_X h with ⟨er_2, hr_2, h⟩ | ⟨r_2, hr_2, h⟩
  · exact x_prop (Wd := CW G q) (vx_runV (As := [.int x2]) (rest := []) ⟨hx, hb, hml, hown, hts⟩ (xX6_checkFeature l hl0 G q C _ x2 er_2 hr_2) (cwV 1 hts gX6_addBundle_X6_checkFeature rfl rfl rfl (by decide +kernel) ⟨Nat.le_of_ble_eq_true rfl, Nat.le_of_ble_eq_true rfl⟩) (xV hP hD hS hK hA hE 7 0 rfl rfl) rfl rfl hl.1 rfl (lv_room (Nat.le_of_ble_eq_true rfl)) dX6_addBundle_7 ⟨Nat.le_of_ble_eq_true rfl, Nat.le_of_ble_eq_true rfl⟩) hD hS hA (fun _ => rfl) hex hlocks h
  refine ro_v (va_runV (As := [.int x2]) (rest := []) ⟨hx, hb, hml, hown, hts⟩ (kX6_checkFeature l G q C x2 r_2 hr_2) (cwV 1 hts gX6_addBundle_X6_checkFeature rfl rfl rfl (by decide +kernel) ⟨Nat.le_of_ble_eq_true rfl, Nat.le_of_ble_eq_true rfl⟩) (roV hP hK 7 0 rfl rfl) rfl rfl hl.1 rfl (lv_room (Nat.le_of_ble_eq_true rfl)) dX6_addBundle_7 ⟨Nat.zero_le _, Nat.zero_le _⟩) ?_
  refine lv_iload_n hx hb dX6_addBundle_10 rfl (lv_at hl 3 rfl) ?_
  refine lv_if_lt (tgt := 21) hx hb dX6_addBundle_11 (by decide) (fun c_11 => ?_) (fun c_11 => ?_)
  · have h := br_T h c_11
    exact xX6_addBundle_21 bx hA hK hl0 hE hex C h hP hD hS _ (lv_sub hl [] rfl)
  · have h := br_F h c_11
    refine lv_iload_n hx hb dX6_addBundle_14 rfl (lv_at hl 3 rfl) ?_
    refine lv_sipush (v := 999) hx hb dX6_addBundle_15 (by decide) ?_
    refine lv_icmp_le (tgt := 31) hx hb dX6_addBundle_18 (by decide) (fun c_18 => ?_) (fun c_18 => ?_)
    · have h := br_T h c_18
      refine lv_aload_n hx hb dX6_addBundle_31 rfl (lv_at hl 0 rfl) ?_
      refine lv_iconst (v := 0) hx hb dX6_addBundle_32 (by decide) ?_
      refine lv_iconst (v := 1) hx hb dX6_addBundle_33 (by decide) ?_
      refine lv_iload_n hx hb dX6_addBundle_34 rfl (lv_at hl 1 rfl) ?_
      refine lv_ishl hx hb dX6_addBundle_35 ?_
      refine lv_iconst (v := 1) hx hb dX6_addBundle_36 (by decide) ?_
      refine lv_iload_n hx hb dX6_addBundle_37 rfl (lv_at hl 2 rfl) ?_
      refine lv_ishl hx hb dX6_addBundle_38 ?_
      refine lv_ior hx hb dX6_addBundle_39 ?_
      refine lv_iload_n hx hb dX6_addBundle_40 rfl (lv_at hl 3 rfl) ?_
      rcases tb_X h with ⟨eu_3, hu_3, h⟩ | ⟨u_3, hu_3, h⟩
      · exact x_prop (Wd := CW G q) (vx_runV (As := [.int 0, .int (((1 : Int32) <<< (x1 &&& 31)) ||| ((1 : Int32) <<< (x2 &&& 31))), .int x3]) (rest := []) ⟨hx, hb, hml, hown, hts⟩ (xX6_addLayer l hl0 G q C _ 0 (((1 : Int32) <<< (x1 &&& 31)) ||| ((1 : Int32) <<< (x2 &&& 31))) x3 eu_3 hu_3) (cwV 3 hts gX6_addBundle_X6_addLayer rfl rfl rfl (by decide +kernel) ⟨Nat.le_of_ble_eq_true rfl, Nat.le_of_ble_eq_true rfl⟩) (xV hP hD hS hK hA hE 7 0 rfl rfl) rfl rfl hl.1 rfl (lv_room (Nat.le_of_ble_eq_true rfl)) dX6_addBundle_41 ⟨Nat.le_of_ble_eq_true rfl, Nat.le_of_ble_eq_true rfl⟩) hD hS hA (fun _ => rfl) hex hlocks h
      refine wr_i (Wd := CW G q) (va_runV (As := [.int 0, .int (((1 : Int32) <<< (x1 &&& 31)) ||| ((1 : Int32) <<< (x2 &&& 31))), .int x3]) (rest := []) ⟨hx, hb, hml, hown, hts⟩ (kX6_addLayer l G q C _ 0 (((1 : Int32) <<< (x1 &&& 31)) ||| ((1 : Int32) <<< (x2 &&& 31))) x3 u_3 hu_3) (cwV 3 hts gX6_addBundle_X6_addLayer rfl rfl rfl (by decide +kernel) ⟨Nat.le_of_ble_eq_true rfl, Nat.le_of_ble_eq_true rfl⟩) (wrV hP hD hK 7 0 rfl rfl) rfl rfl hl.1 rfl (lv_room (Nat.le_of_ble_eq_true rfl)) dX6_addBundle_41 ⟨Nat.zero_le _, Nat.zero_le _⟩) hD hS hA (fun _ => rfl) (fun H locs hP hD hS => ?_)
      cases h
    · have h := br_F h c_18
      exact xX6_addBundle_21 bx hA hK hl0 hE hex C h hP hD hS _ (lv_sub hl [] rfl)

def rmX6_addPercent : Room := { frames := 2, cells := 0, slots := 0, locals := 46 }

set_option maxHeartbeats 4000000 in
set_option maxRecDepth 100000 in
theorem wX6_addPercent_10 {p : Program} {l : Launch} {e : Env} {s : State} {m : MethodId} {args : Array Value} {below : List Frame} {meth : Method} {c : Code} {G : GT} {q : Nat → Nat} {A : Nat → Prop} {out : Int32 × St} (bx : BX p RX6 wsX6_addPercent cX6_addPercent 2 (some .int) s m args meth c) (hA : ∀ q : Nat, s.heap.size ≤ q → A q) (hK : CK G s) (C : St) (h : pX6_addPercent_10 C = some (.inr out)) {H : Heap} {locs : List Loc} (hP : va_P G.1 vwCl (CW G q C) H) (hD : va_D A (CW G q C)) (hS : va_S A s.heap H locs) (ls : Array Slot) (hl : lv_has ls 2 []) : W p l e rmX6_addPercent s m args below meth c H locs 0 0 (MQi G (CW G q) A s args below out) (F0 m 10 ls []) := by
  obtain ⟨hx, hb, hr, hts, hown, hml, hlocks⟩ := id bx
  unfold pX6_addPercent_10 at h
  cases h

set_option maxHeartbeats 4000000 in
set_option maxRecDepth 100000 in
theorem kX6_addPercent (l : Launch) (G : GT) (q : Nat → Nat) (C : St) (sz : Nat) (x1 : Int32) (r : Int32 × St) (h : pX6_addPercent C x1 = some (.inr r)) : Met l yX6_addPercent wsX6_addPercent rmX6_addPercent (va_Pc [.ref (q 0), .int x1] (wrP G (CW G q C) sz)) (va_Qi (fun v u => (v, u) = r) (fun u t => va_P G.1 vwCl (CW G q u) t.heap) (va_A (CW G q C) sz)) 0 0 (va_A (CW G q C) sz) := by
  refine Met.ofW (cc := cX6_addPercent) (maxL := 2) (ret := (some .int)) (by decide) rfl ?_
  intro p e s m args below meth c s₁ B hml hv
  obtain ⟨rfl, hsz, hP, hK, hD0⟩ := hv
  have bx := bx_of B hml
  subst hsz
  have hD := hD0.self (sz := s.heap.size)
  generalize hAe : va_A (CW G q C) s.heap.size = A at hD ⊢
  have hA : ∀ q : Nat, s.heap.size ≤ q → A q := fun q h => by rw [← hAe]; exact Or.inr h
  have hS : va_S A s.heap s.heap [] := va_S.rf
  obtain ⟨hx, hb, hr, hts, hown, hml, hlocks⟩ := id bx
  have hl := lv_entry ([.ref (q 0), .int x1]) (n := 2) (Nat.le_of_ble_eq_true rfl)
  rw [lg_entry_eq]
  generalize (lg_sl ([.ref (q 0), .int x1]) ++ List.replicate (2 - (lg_sl ([.ref (q 0), .int x1])).length) Slot.unset).toArray = ls at hl ⊢
  have hl : lv_has ls 2 [(0, .ref (q 0)), (1, .int x1)] := hl
  show W p l e rmX6_addPercent s m _ below meth c s.heap [] 0 0 (MQi G (CW G q) A s _ below r) (F0 m 0 ls [])
  unfold pX6_addPercent at h
  refine lv_iload_n hx hb dX6_addPercent_0 rfl (lv_at hl 1 rfl) ?_
  refine lv_if_lt (tgt := 10) hx hb dX6_addPercent_1 (by decide) (fun c_1 => ?_) (fun c_1 => ?_)
  · have h := br_T h c_1
    exact wX6_addPercent_10 bx hA hK C h hP hD hS _ (lv_sub hl [] rfl)
  · have h := br_F h c_1
    refine lv_iload_n hx hb dX6_addPercent_4 rfl (lv_at hl 1 rfl) ?_
    refine lv_bipush (v := 100) hx hb dX6_addPercent_5 (by decide) ?_
    refine lv_icmp_le (tgt := 20) hx hb dX6_addPercent_7 (by decide) (fun c_7 => ?_) (fun c_7 => ?_)
    · have h := br_T h c_7
      refine lv_aload_n hx hb dX6_addPercent_20 rfl (lv_at hl 0 rfl) ?_
      refine lv_iconst (v := 1) hx hb dX6_addPercent_21 (by decide) ?_
      refine lv_iconst (v := 0) hx hb dX6_addPercent_22 (by decide) ?_
      refine lv_iload_n hx hb dX6_addPercent_23 rfl (lv_at hl 1 rfl) ?_
      obtain ⟨u_1, hu_1, h⟩ := tb_N h
      refine wr_i (Wd := CW G q) (va_runV (As := [.int 1, .int 0, .int x1]) (rest := []) ⟨hx, hb, hml, hown, hts⟩ (kX6_addLayer l G q C _ 1 0 x1 u_1 hu_1) (cwV 3 hts gX6_addPercent_X6_addLayer rfl rfl rfl (by decide +kernel) ⟨Nat.le_of_ble_eq_true rfl, Nat.le_of_ble_eq_true rfl⟩) (wrV hP hD hK 7 0 rfl rfl) rfl rfl hl.1 rfl (lv_room (Nat.le_of_ble_eq_true rfl)) dX6_addPercent_24 ⟨Nat.zero_le _, Nat.zero_le _⟩) hD hS hA (fun _ => rfl) (fun H locs hP hD hS => ?_)
      exact MQi.end hx hb hr hlocks hP hS dX6_addPercent_27 rfl (nn_ h)
    · have h := br_F h c_7
      exact wX6_addPercent_10 bx hA hK C h hP hD hS _ (lv_sub hl [] rfl)

def rxX6_addPercent : Room := { frames := 7, cells := 1, slots := 6, locals := 123 }

set_option maxHeartbeats 4000000 in
set_option maxRecDepth 100000 in
theorem xX6_addPercent_10 {p : Program} {l : Launch} {e : Env} {s : State} {m : MethodId} {args : Array Value} {below : List Frame} {meth : Method} {c : Code} {G : GT} {q : Nat → Nat} {A : Nat → Prop} {out : Nat × St} (bx : BX p RX6 wsX6_addPercent cX6_addPercent 2 (some .int) s m args meth c) (hA : ∀ q : Nat, s.heap.size ≤ q → A q) (hK : CK G s) (hl0 : l.stackTraces = false) (hE : XE A s) (hex : ∀ x ∈ c.exceptionTable.toList, False) (C : St) (h : pX6_addPercent_10 C = some (.inl out)) {H : Heap} {locs : List Loc} (hP : va_P G.1 vwCl (CW G q C) H) (hD : va_D A (CW G q C)) (hS : va_S A s.heap H locs) (ls : Array Slot) (hl : lv_has ls 2 []) : W p l e rxX6_addPercent s m args below meth c H locs 0 0 (MQx G (CW G q) A s args below out) (F0 m 10 ls []) := by
  obtain ⟨hx, hb, hr, hts, hown, hml, hlocks⟩ := id bx
  unfold pX6_addPercent_10 at h
  exact x_throwS (Wd := CW G q) (C := C) (k := 2) (cls := "java/lang/IllegalArgumentException") (text := "the percentage is out of range") hx hb hl0 hts hown hml hlocks hex hK hE hP hS hl (by decide +kernel) (w_mem hts 1 rfl) (w_mem hts 2 rfl) (List.mem_of_getElem? (i := 10) rfl) (fun w h => List.mem_cons_of_mem _ (List.mem_append_left _ (List.mem_append_right _ h))) xB_52 xG_52_48 dX6_addPercent_10 dX6_addPercent_13 dX6_addPercent_14 dX6_addPercent_16 dX6_addPercent_19 ⟨Nat.le_of_ble_eq_true rfl, Nat.le_of_ble_eq_true rfl, Nat.le_of_ble_eq_true rfl, Nat.le_of_ble_eq_true rfl⟩ ((xl_ h).symm) rfl

set_option maxHeartbeats 4000000 in
set_option maxRecDepth 100000 in
theorem xX6_addPercent (l : Launch) (hl0 : l.stackTraces = false) (G : GT) (q : Nat → Nat) (C : St) (sz : Nat) (x1 : Int32) (r : Nat × St) (h : pX6_addPercent C x1 = some (.inl r)) : vx_Met l yX6_addPercent wsX6_addPercent rxX6_addPercent (va_Pc [.ref (q 0), .int x1] (xP G (CW G q C) sz)) (fun _ _ _ _ => False) (XCf G (CW G q) (va_A (CW G q C) sz) r) 1 6 (va_A (CW G q C) sz) := by
  refine vx_ofW (cc := cX6_addPercent) (maxL := 2) (ret := (some .int)) (by decide) rfl ?_
  intro p e s m args below meth c s₁ B hml hex hv
  obtain ⟨rfl, ⟨hsz, hP, hK, hD0⟩, hE⟩ := hv
  have bx := bx_of B hml
  subst hsz
  have hD := hD0.self (sz := s.heap.size)
  generalize hAe : va_A (CW G q C) s.heap.size = A at hD hE ⊢
  have hA : ∀ q : Nat, s.heap.size ≤ q → A q := fun q h => by rw [← hAe]; exact Or.inr h
  have hS : va_S A s.heap s.heap [] := va_S.rf
  obtain ⟨hx, hb, hr, hts, hown, hml, hlocks⟩ := id bx
  have hl := lv_entry ([.ref (q 0), .int x1]) (n := 2) (Nat.le_of_ble_eq_true rfl)
  rw [lg_entry_eq]
  generalize (lg_sl ([.ref (q 0), .int x1]) ++ List.replicate (2 - (lg_sl ([.ref (q 0), .int x1])).length) Slot.unset).toArray = ls at hl ⊢
  have hl : lv_has ls 2 [(0, .ref (q 0)), (1, .int x1)] := hl
  show W p l e rxX6_addPercent s m _ below meth c s.heap [] 0 0 (MQx G (CW G q) A s _ below r) (F0 m 0 ls [])
  unfold pX6_addPercent at h
  refine lv_iload_n hx hb dX6_addPercent_0 rfl (lv_at hl 1 rfl) ?_
  refine lv_if_lt (tgt := 10) hx hb dX6_addPercent_1 (by decide) (fun c_1 => ?_) (fun c_1 => ?_)
  · have h := br_T h c_1
    exact xX6_addPercent_10 bx hA hK hl0 hE hex C h hP hD hS _ (lv_sub hl [] rfl)
  · have h := br_F h c_1
    refine lv_iload_n hx hb dX6_addPercent_4 rfl (lv_at hl 1 rfl) ?_
    refine lv_bipush (v := 100) hx hb dX6_addPercent_5 (by decide) ?_
    refine lv_icmp_le (tgt := 20) hx hb dX6_addPercent_7 (by decide) (fun c_7 => ?_) (fun c_7 => ?_)
    · have h := br_T h c_7
      refine lv_aload_n hx hb dX6_addPercent_20 rfl (lv_at hl 0 rfl) ?_
      refine lv_iconst (v := 1) hx hb dX6_addPercent_21 (by decide) ?_
      refine lv_iconst (v := 0) hx hb dX6_addPercent_22 (by decide) ?_
      refine lv_iload_n hx hb dX6_addPercent_23 rfl (lv_at hl 1 rfl) ?_
      rcases tb_X h with ⟨eu_1, hu_1, h⟩ | ⟨u_1, hu_1, h⟩
      · exact x_prop (Wd := CW G q) (vx_runV (As := [.int 1, .int 0, .int x1]) (rest := []) ⟨hx, hb, hml, hown, hts⟩ (xX6_addLayer l hl0 G q C _ 1 0 x1 eu_1 hu_1) (cwV 3 hts gX6_addPercent_X6_addLayer rfl rfl rfl (by decide +kernel) ⟨Nat.le_of_ble_eq_true rfl, Nat.le_of_ble_eq_true rfl⟩) (xV hP hD hS hK hA hE 7 0 rfl rfl) rfl rfl hl.1 rfl (lv_room (Nat.le_of_ble_eq_true rfl)) dX6_addPercent_24 ⟨Nat.le_of_ble_eq_true rfl, Nat.le_of_ble_eq_true rfl⟩) hD hS hA (fun _ => rfl) hex hlocks h
      refine wr_i (Wd := CW G q) (va_runV (As := [.int 1, .int 0, .int x1]) (rest := []) ⟨hx, hb, hml, hown, hts⟩ (kX6_addLayer l G q C _ 1 0 x1 u_1 hu_1) (cwV 3 hts gX6_addPercent_X6_addLayer rfl rfl rfl (by decide +kernel) ⟨Nat.le_of_ble_eq_true rfl, Nat.le_of_ble_eq_true rfl⟩) (wrV hP hD hK 7 0 rfl rfl) rfl rfl hl.1 rfl (lv_room (Nat.le_of_ble_eq_true rfl)) dX6_addPercent_24 ⟨Nat.zero_le _, Nat.zero_le _⟩) hD hS hA (fun _ => rfl) (fun H locs hP hD hS => ?_)
      cases h
    · have h := br_F h c_7
      exact xX6_addPercent_10 bx hA hK hl0 hE hex C h hP hD hS _ (lv_sub hl [] rfl)

def rmX6_addSurcharge : Room := { frames := 2, cells := 0, slots := 0, locals := 46 }

set_option maxHeartbeats 4000000 in
set_option maxRecDepth 100000 in
theorem wX6_addSurcharge_21 {p : Program} {l : Launch} {e : Env} {s : State} {m : MethodId} {args : Array Value} {below : List Frame} {meth : Method} {c : Code} {G : GT} {q : Nat → Nat} {A : Nat → Prop} {out : Int32 × St} (bx : BX p RX6 wsX6_addSurcharge cX6_addSurcharge 3 (some .int) s m args meth c) (hA : ∀ q : Nat, s.heap.size ≤ q → A q) (hK : CK G s) (C : St) (h : pX6_addSurcharge_21 C = some (.inr out)) {H : Heap} {locs : List Loc} (hP : va_P G.1 vwCl (CW G q C) H) (hD : va_D A (CW G q C)) (hS : va_S A s.heap H locs) (ls : Array Slot) (hl : lv_has ls 3 []) : W p l e rmX6_addSurcharge s m args below meth c H locs 0 0 (MQi G (CW G q) A s args below out) (F0 m 21 ls []) := by
  obtain ⟨hx, hb, hr, hts, hown, hml, hlocks⟩ := id bx
  unfold pX6_addSurcharge_21 at h
  cases h

set_option maxHeartbeats 4000000 in
set_option maxRecDepth 100000 in
theorem kX6_addSurcharge (l : Launch) (G : GT) (q : Nat → Nat) (C : St) (sz : Nat) (x1 : Int32) (x2 : Int32) (r : Int32 × St) (h : pX6_addSurcharge C x1 x2 = some (.inr r)) : Met l yX6_addSurcharge wsX6_addSurcharge rmX6_addSurcharge (va_Pc [.ref (q 0), .int x1, .int x2] (wrP G (CW G q C) sz)) (va_Qi (fun v u => (v, u) = r) (fun u t => va_P G.1 vwCl (CW G q u) t.heap) (va_A (CW G q C) sz)) 0 0 (va_A (CW G q C) sz) := by
  refine Met.ofW (cc := cX6_addSurcharge) (maxL := 3) (ret := (some .int)) (by decide) rfl ?_
  intro p e s m args below meth c s₁ B hml hv
  obtain ⟨rfl, hsz, hP, hK, hD0⟩ := hv
  have bx := bx_of B hml
  subst hsz
  have hD := hD0.self (sz := s.heap.size)
  generalize hAe : va_A (CW G q C) s.heap.size = A at hD ⊢
  have hA : ∀ q : Nat, s.heap.size ≤ q → A q := fun q h => by rw [← hAe]; exact Or.inr h
  have hS : va_S A s.heap s.heap [] := va_S.rf
  obtain ⟨hx, hb, hr, hts, hown, hml, hlocks⟩ := id bx
  have hl := lv_entry ([.ref (q 0), .int x1, .int x2]) (n := 3) (Nat.le_of_ble_eq_true rfl)
  rw [lg_entry_eq]
  generalize (lg_sl ([.ref (q 0), .int x1, .int x2]) ++ List.replicate (3 - (lg_sl ([.ref (q 0), .int x1, .int x2])).length) Slot.unset).toArray = ls at hl ⊢
  have hl : lv_has ls 3 [(0, .ref (q 0)), (1, .int x1), (2, .int x2)] := hl
  show W p l e rmX6_addSurcharge s m _ below meth c s.heap [] 0 0 (MQi G (CW G q) A s _ below r) (F0 m 0 ls [])
  unfold pX6_addSurcharge at h
  refine lv_iload_n hx hb dX6_addSurcharge_0 rfl (lv_at hl 1 rfl) ?_
  refine lv_if_lt (tgt := 21) hx hb dX6_addSurcharge_1 (by decide) (fun c_1 => ?_) (fun c_1 => ?_)
  · have h := br_T h c_1
    exact wX6_addSurcharge_21 bx hA hK C h hP hD hS _ (lv_sub hl [] rfl)
  · have h := br_F h c_1
    refine lv_iload_n hx hb dX6_addSurcharge_4 rfl (lv_at hl 1 rfl) ?_
    refine lv_bipush (v := 12) hx hb dX6_addSurcharge_5 (by decide) ?_
    refine lv_icmp_gt (tgt := 21) hx hb dX6_addSurcharge_7 (by decide) (fun c_7 => ?_) (fun c_7 => ?_)
    · have h := br_T h c_7
      exact wX6_addSurcharge_21 bx hA hK C h hP hD hS _ (lv_sub hl [] rfl)
    · have h := br_F h c_7
      refine lv_iload_n hx hb dX6_addSurcharge_10 rfl (lv_at hl 2 rfl) ?_
      refine lv_if_lt (tgt := 21) hx hb dX6_addSurcharge_11 (by decide) (fun c_11 => ?_) (fun c_11 => ?_)
      · have h := br_T h c_11
        exact wX6_addSurcharge_21 bx hA hK C h hP hD hS _ (lv_sub hl [] rfl)
      · have h := br_F h c_11
        refine lv_iload_n hx hb dX6_addSurcharge_14 rfl (lv_at hl 2 rfl) ?_
        refine lv_sipush (v := 999) hx hb dX6_addSurcharge_15 (by decide) ?_
        refine lv_icmp_le (tgt := 31) hx hb dX6_addSurcharge_18 (by decide) (fun c_18 => ?_) (fun c_18 => ?_)
        · have h := br_T h c_18
          refine lv_aload_n hx hb dX6_addSurcharge_31 rfl (lv_at hl 0 rfl) ?_
          refine lv_iconst (v := 2) hx hb dX6_addSurcharge_32 (by decide) ?_
          refine lv_iload_n hx hb dX6_addSurcharge_33 rfl (lv_at hl 1 rfl) ?_
          refine lv_iload_n hx hb dX6_addSurcharge_34 rfl (lv_at hl 2 rfl) ?_
          obtain ⟨u_1, hu_1, h⟩ := tb_N h
          refine wr_i (Wd := CW G q) (va_runV (As := [.int 2, .int x1, .int x2]) (rest := []) ⟨hx, hb, hml, hown, hts⟩ (kX6_addLayer l G q C _ 2 x1 x2 u_1 hu_1) (cwV 3 hts gX6_addSurcharge_X6_addLayer rfl rfl rfl (by decide +kernel) ⟨Nat.le_of_ble_eq_true rfl, Nat.le_of_ble_eq_true rfl⟩) (wrV hP hD hK 7 0 rfl rfl) rfl rfl hl.1 rfl (lv_room (Nat.le_of_ble_eq_true rfl)) dX6_addSurcharge_35 ⟨Nat.zero_le _, Nat.zero_le _⟩) hD hS hA (fun _ => rfl) (fun H locs hP hD hS => ?_)
          exact MQi.end hx hb hr hlocks hP hS dX6_addSurcharge_38 rfl (nn_ h)
        · have h := br_F h c_18
          exact wX6_addSurcharge_21 bx hA hK C h hP hD hS _ (lv_sub hl [] rfl)

def rxX6_addSurcharge : Room := { frames := 7, cells := 1, slots := 6, locals := 123 }

set_option maxHeartbeats 4000000 in
set_option maxRecDepth 100000 in
theorem xX6_addSurcharge_21 {p : Program} {l : Launch} {e : Env} {s : State} {m : MethodId} {args : Array Value} {below : List Frame} {meth : Method} {c : Code} {G : GT} {q : Nat → Nat} {A : Nat → Prop} {out : Nat × St} (bx : BX p RX6 wsX6_addSurcharge cX6_addSurcharge 3 (some .int) s m args meth c) (hA : ∀ q : Nat, s.heap.size ≤ q → A q) (hK : CK G s) (hl0 : l.stackTraces = false) (hE : XE A s) (hex : ∀ x ∈ c.exceptionTable.toList, False) (C : St) (h : pX6_addSurcharge_21 C = some (.inl out)) {H : Heap} {locs : List Loc} (hP : va_P G.1 vwCl (CW G q C) H) (hD : va_D A (CW G q C)) (hS : va_S A s.heap H locs) (ls : Array Slot) (hl : lv_has ls 3 []) : W p l e rxX6_addSurcharge s m args below meth c H locs 0 0 (MQx G (CW G q) A s args below out) (F0 m 21 ls []) := by
  obtain ⟨hx, hb, hr, hts, hown, hml, hlocks⟩ := id bx
  unfold pX6_addSurcharge_21 at h
  exact x_throwS (Wd := CW G q) (C := C) (k := 2) (cls := "java/lang/IllegalArgumentException") (text := "the number or the amount is out of range") hx hb hl0 hts hown hml hlocks hex hK hE hP hS hl (by decide +kernel) (w_mem hts 1 rfl) (w_mem hts 2 rfl) (List.mem_of_getElem? (i := 11) rfl) (fun w h => List.mem_cons_of_mem _ (List.mem_append_left _ (List.mem_append_right _ h))) xB_52 xG_52_48 dX6_addSurcharge_21 dX6_addSurcharge_24 dX6_addSurcharge_25 dX6_addSurcharge_27 dX6_addSurcharge_30 ⟨Nat.le_of_ble_eq_true rfl, Nat.le_of_ble_eq_true rfl, Nat.le_of_ble_eq_true rfl, Nat.le_of_ble_eq_true rfl⟩ ((xl_ h).symm) rfl

set_option maxHeartbeats 4000000 in
set_option maxRecDepth 100000 in
theorem xX6_addSurcharge (l : Launch) (hl0 : l.stackTraces = false) (G : GT) (q : Nat → Nat) (C : St) (sz : Nat) (x1 : Int32) (x2 : Int32) (r : Nat × St) (h : pX6_addSurcharge C x1 x2 = some (.inl r)) : vx_Met l yX6_addSurcharge wsX6_addSurcharge rxX6_addSurcharge (va_Pc [.ref (q 0), .int x1, .int x2] (xP G (CW G q C) sz)) (fun _ _ _ _ => False) (XCf G (CW G q) (va_A (CW G q C) sz) r) 1 6 (va_A (CW G q C) sz) := by
  refine vx_ofW (cc := cX6_addSurcharge) (maxL := 3) (ret := (some .int)) (by decide) rfl ?_
  intro p e s m args below meth c s₁ B hml hex hv
  obtain ⟨rfl, ⟨hsz, hP, hK, hD0⟩, hE⟩ := hv
  have bx := bx_of B hml
  subst hsz
  have hD := hD0.self (sz := s.heap.size)
  generalize hAe : va_A (CW G q C) s.heap.size = A at hD hE ⊢
  have hA : ∀ q : Nat, s.heap.size ≤ q → A q := fun q h => by rw [← hAe]; exact Or.inr h
  have hS : va_S A s.heap s.heap [] := va_S.rf
  obtain ⟨hx, hb, hr, hts, hown, hml, hlocks⟩ := id bx
  have hl := lv_entry ([.ref (q 0), .int x1, .int x2]) (n := 3) (Nat.le_of_ble_eq_true rfl)
  rw [lg_entry_eq]
  generalize (lg_sl ([.ref (q 0), .int x1, .int x2]) ++ List.replicate (3 - (lg_sl ([.ref (q 0), .int x1, .int x2])).length) Slot.unset).toArray = ls at hl ⊢
  have hl : lv_has ls 3 [(0, .ref (q 0)), (1, .int x1), (2, .int x2)] := hl
  show W p l e rxX6_addSurcharge s m _ below meth c s.heap [] 0 0 (MQx G (CW G q) A s _ below r) (F0 m 0 ls [])
  unfold pX6_addSurcharge at h
  refine lv_iload_n hx hb dX6_addSurcharge_0 rfl (lv_at hl 1 rfl) ?_
  refine lv_if_lt (tgt := 21) hx hb dX6_addSurcharge_1 (by decide) (fun c_1 => ?_) (fun c_1 => ?_)
  · have h := br_T h c_1
    exact xX6_addSurcharge_21 bx hA hK hl0 hE hex C h hP hD hS _ (lv_sub hl [] rfl)
  · have h := br_F h c_1
    refine lv_iload_n hx hb dX6_addSurcharge_4 rfl (lv_at hl 1 rfl) ?_
    refine lv_bipush (v := 12) hx hb dX6_addSurcharge_5 (by decide) ?_
    refine lv_icmp_gt (tgt := 21) hx hb dX6_addSurcharge_7 (by decide) (fun c_7 => ?_) (fun c_7 => ?_)
    · have h := br_T h c_7
      exact xX6_addSurcharge_21 bx hA hK hl0 hE hex C h hP hD hS _ (lv_sub hl [] rfl)
    · have h := br_F h c_7
      refine lv_iload_n hx hb dX6_addSurcharge_10 rfl (lv_at hl 2 rfl) ?_
      refine lv_if_lt (tgt := 21) hx hb dX6_addSurcharge_11 (by decide) (fun c_11 => ?_) (fun c_11 => ?_)
      · have h := br_T h c_11
        exact xX6_addSurcharge_21 bx hA hK hl0 hE hex C h hP hD hS _ (lv_sub hl [] rfl)
      · have h := br_F h c_11
        refine lv_iload_n hx hb dX6_addSurcharge_14 rfl (lv_at hl 2 rfl) ?_
        refine lv_sipush (v := 999) hx hb dX6_addSurcharge_15 (by decide) ?_
        refine lv_icmp_le (tgt := 31) hx hb dX6_addSurcharge_18 (by decide) (fun c_18 => ?_) (fun c_18 => ?_)
        · have h := br_T h c_18
          refine lv_aload_n hx hb dX6_addSurcharge_31 rfl (lv_at hl 0 rfl) ?_
          refine lv_iconst (v := 2) hx hb dX6_addSurcharge_32 (by decide) ?_
          refine lv_iload_n hx hb dX6_addSurcharge_33 rfl (lv_at hl 1 rfl) ?_
          refine lv_iload_n hx hb dX6_addSurcharge_34 rfl (lv_at hl 2 rfl) ?_
          rcases tb_X h with ⟨eu_1, hu_1, h⟩ | ⟨u_1, hu_1, h⟩
          · exact x_prop (Wd := CW G q) (vx_runV (As := [.int 2, .int x1, .int x2]) (rest := []) ⟨hx, hb, hml, hown, hts⟩ (xX6_addLayer l hl0 G q C _ 2 x1 x2 eu_1 hu_1) (cwV 3 hts gX6_addSurcharge_X6_addLayer rfl rfl rfl (by decide +kernel) ⟨Nat.le_of_ble_eq_true rfl, Nat.le_of_ble_eq_true rfl⟩) (xV hP hD hS hK hA hE 7 0 rfl rfl) rfl rfl hl.1 rfl (lv_room (Nat.le_of_ble_eq_true rfl)) dX6_addSurcharge_35 ⟨Nat.le_of_ble_eq_true rfl, Nat.le_of_ble_eq_true rfl⟩) hD hS hA (fun _ => rfl) hex hlocks h
          refine wr_i (Wd := CW G q) (va_runV (As := [.int 2, .int x1, .int x2]) (rest := []) ⟨hx, hb, hml, hown, hts⟩ (kX6_addLayer l G q C _ 2 x1 x2 u_1 hu_1) (cwV 3 hts gX6_addSurcharge_X6_addLayer rfl rfl rfl (by decide +kernel) ⟨Nat.le_of_ble_eq_true rfl, Nat.le_of_ble_eq_true rfl⟩) (wrV hP hD hK 7 0 rfl rfl) rfl rfl hl.1 rfl (lv_room (Nat.le_of_ble_eq_true rfl)) dX6_addSurcharge_35 ⟨Nat.zero_le _, Nat.zero_le _⟩) hD hS hA (fun _ => rfl) (fun H locs hP hD hS => ?_)
          cases h
        · have h := br_F h c_18
          exact xX6_addSurcharge_21 bx hA hK hl0 hE hex C h hP hD hS _ (lv_sub hl [] rfl)

def rmX6_removeLayer : Room := { frames := 0, cells := 0, slots := 0, locals := 0 }

theorem in_wsX6_removeLayer_X6 : ∀ w ∈ u_ws RX6 TX6 7, w ∈ wsX6_removeLayer := by decide +kernel

theorem in_wsX6_removeLayer_X2 : ∀ w ∈ u_ws RX2 TX2 5, w ∈ wsX6_removeLayer := by decide +kernel

set_option maxHeartbeats 4000000 in
set_option maxRecDepth 100000 in
theorem kX6_removeLayer (l : Launch) (G : GT) (q : Nat → Nat) (C : St) (sz : Nat) (r : Int32 × St) (h : pX6_removeLayer C = some (.inr r)) : Met l yX6_removeLayer wsX6_removeLayer rmX6_removeLayer (va_Pc [.ref (q 0)] (wrP G (CW G q C) sz)) (va_Qi (fun v u => (v, u) = r) (fun u t => va_P G.1 vwCl (CW G q u) t.heap) (va_A (CW G q C) sz)) 0 0 (va_A (CW G q C) sz) := by
  refine Met.ofW (cc := cX6_removeLayer) (maxL := 1) (ret := (some .int)) (by decide) rfl ?_
  intro p e s m args below meth c s₁ B hml hv
  obtain ⟨rfl, hsz, hP, hK, hD0⟩ := hv
  have bx := bx_of B hml
  subst hsz
  have hD := hD0.self (sz := s.heap.size)
  generalize hAe : va_A (CW G q C) s.heap.size = A at hD ⊢
  have hA : ∀ q : Nat, s.heap.size ≤ q → A q := fun q h => by rw [← hAe]; exact Or.inr h
  have hS : va_S A s.heap s.heap [] := va_S.rf
  obtain ⟨hx, hb, hr, hts, hown, hml, hlocks⟩ := id bx
  have hl := lv_entry ([.ref (q 0)]) (n := 1) (Nat.le_of_ble_eq_true rfl)
  rw [lg_entry_eq]
  generalize (lg_sl ([.ref (q 0)]) ++ List.replicate (1 - (lg_sl ([.ref (q 0)])).length) Slot.unset).toArray = ls at hl ⊢
  have hl : lv_has ls 1 [(0, .ref (q 0))] := hl
  show W p l e rmX6_removeLayer s m _ below meth c s.heap [] 0 0 (MQi G (CW G q) A s _ below r) (F0 m 0 ls [])
  unfold pX6_removeLayer at h
  refine lv_aload_n hx hb dX6_removeLayer_0 rfl (lv_at hl 0 rfl) ?_
  refine va_get (D := G.1) (ci := 7) (v := .ref (q 3)) (C := RX6) (T := TX6) (N := 7) hx hb hts in_wsX6_removeLayer_X6 hown hK.1 hP 0 rfl rfl 2 (by decide) (w_mem hts 3 rfl) (fun _ h9 => h9) rfl dX6_removeLayer_1 ?_
  refine va_getN (D := G.1) (ci := 4) (v := .int (C.1 6)) (C := RX2) (T := TX2) (N := 5) hx hb hts in_wsX6_removeLayer_X2 hown hK.1 hP 3 rfl rfl 4 (by decide) (hK.2.at 44 rfl) (fun _ h9 => h9) rfl dX6_removeLayer_4 ?_
  refine lv_if_gt (tgt := 20) hx hb dX6_removeLayer_7 (by decide) (fun c_7 => ?_) (fun c_7 => ?_)
  · have h := br_T h c_7
    refine lv_aload_n hx hb dX6_removeLayer_20 rfl (lv_at hl 0 rfl) ?_
    refine va_get (D := G.1) (ci := 7) (v := .ref (q 3)) (C := RX6) (T := TX6) (N := 7) hx hb hts in_wsX6_removeLayer_X6 hown hK.1 hP 0 rfl rfl 2 (by decide) (w_mem hts 3 rfl) (fun _ h9 => h9) rfl dX6_removeLayer_21 ?_
    refine lv_dup hx hb dX6_removeLayer_24 rfl ?_
    refine va_getN (D := G.1) (ci := 4) (v := .int (C.1 6)) (C := RX2) (T := TX2) (N := 5) hx hb hts in_wsX6_removeLayer_X2 hown hK.1 hP 3 rfl rfl 4 (by decide) (hK.2.at 44 rfl) (fun _ h9 => h9) rfl dX6_removeLayer_25 ?_
    refine lv_iconst (v := 1) hx hb dX6_removeLayer_28 (by decide) ?_
    refine lv_isub hx hb dX6_removeLayer_29 ?_
    refine va_putN (D := G.1) (ci := 4) (v := .int ((C.1 6) - 1)) (ty := .int) (C := RX2) (T := TX2) (N := 5) hx hb hts in_wsX6_removeLayer_X2 tyX2 tyX2_ok nmX2 hown hK.1 hP hD hS 3 rfl rfl 4 (by decide) (hK.2.at 44 rfl) (fun _ h9 => h9) rfl (by decide +kernel) rfl rfl (Nat.le_of_ble_eq_true rfl) dX6_removeLayer_30 (fun H locs hP hD hS => ?_)
    have hP : va_P G.1 vwCl (CW G q (sS C 6 ((C.1 6) - 1))) H := hP
    have hD : va_D A (CW G q (sS C 6 ((C.1 6) - 1))) := hD
    obtain ⟨C_1, eC_1, h⟩ := ltv_ex h
    rw [← eC_1] at hP hD
    refine lv_aload_n hx hb dX6_removeLayer_33 rfl (lv_at hl 0 rfl) ?_
    refine va_get (D := G.1) (ci := 7) (v := .ref (q 3)) (C := RX6) (T := TX6) (N := 7) hx hb hts in_wsX6_removeLayer_X6 hown hK.1 hP 0 rfl rfl 2 (by decide) (w_mem hts 3 rfl) (fun _ h9 => h9) rfl dX6_removeLayer_34 ?_
    refine va_getN (D := G.1) (ci := 4) (v := .int (C_1.1 6)) (C := RX2) (T := TX2) (N := 5) hx hb hts in_wsX6_removeLayer_X2 hown hK.1 hP 3 rfl rfl 4 (by decide) (hK.2.at 44 rfl) (fun _ h9 => h9) rfl dX6_removeLayer_37 ?_
    refine lv_iconst (v := 1) hx hb dX6_removeLayer_40 (by decide) ?_
    refine lv_iadd hx hb dX6_removeLayer_41 ?_
    exact MQi.end hx hb hr hlocks hP hS dX6_removeLayer_42 rfl (nn_ h)
  · have h := br_F h c_7
    cases h

def rxX6_removeLayer : Room := { frames := 6, cells := 1, slots := 6, locals := 100 }

set_option maxHeartbeats 4000000 in
set_option maxRecDepth 100000 in
theorem xX6_removeLayer (l : Launch) (hl0 : l.stackTraces = false) (G : GT) (q : Nat → Nat) (C : St) (sz : Nat) (r : Nat × St) (h : pX6_removeLayer C = some (.inl r)) : vx_Met l yX6_removeLayer wsX6_removeLayer rxX6_removeLayer (va_Pc [.ref (q 0)] (xP G (CW G q C) sz)) (fun _ _ _ _ => False) (XCf G (CW G q) (va_A (CW G q C) sz) r) 1 6 (va_A (CW G q C) sz) := by
  refine vx_ofW (cc := cX6_removeLayer) (maxL := 1) (ret := (some .int)) (by decide) rfl ?_
  intro p e s m args below meth c s₁ B hml hex hv
  obtain ⟨rfl, ⟨hsz, hP, hK, hD0⟩, hE⟩ := hv
  have bx := bx_of B hml
  subst hsz
  have hD := hD0.self (sz := s.heap.size)
  generalize hAe : va_A (CW G q C) s.heap.size = A at hD hE ⊢
  have hA : ∀ q : Nat, s.heap.size ≤ q → A q := fun q h => by rw [← hAe]; exact Or.inr h
  have hS : va_S A s.heap s.heap [] := va_S.rf
  obtain ⟨hx, hb, hr, hts, hown, hml, hlocks⟩ := id bx
  have hl := lv_entry ([.ref (q 0)]) (n := 1) (Nat.le_of_ble_eq_true rfl)
  rw [lg_entry_eq]
  generalize (lg_sl ([.ref (q 0)]) ++ List.replicate (1 - (lg_sl ([.ref (q 0)])).length) Slot.unset).toArray = ls at hl ⊢
  have hl : lv_has ls 1 [(0, .ref (q 0))] := hl
  show W p l e rxX6_removeLayer s m _ below meth c s.heap [] 0 0 (MQx G (CW G q) A s _ below r) (F0 m 0 ls [])
  unfold pX6_removeLayer at h
  refine lv_aload_n hx hb dX6_removeLayer_0 rfl (lv_at hl 0 rfl) ?_
  refine va_get (D := G.1) (ci := 7) (v := .ref (q 3)) (C := RX6) (T := TX6) (N := 7) hx hb hts in_wsX6_removeLayer_X6 hown hK.1 hP 0 rfl rfl 2 (by decide) (w_mem hts 3 rfl) (fun _ h9 => h9) rfl dX6_removeLayer_1 ?_
  refine va_getN (D := G.1) (ci := 4) (v := .int (C.1 6)) (C := RX2) (T := TX2) (N := 5) hx hb hts in_wsX6_removeLayer_X2 hown hK.1 hP 3 rfl rfl 4 (by decide) (hK.2.at 44 rfl) (fun _ h9 => h9) rfl dX6_removeLayer_4 ?_
  refine lv_if_gt (tgt := 20) hx hb dX6_removeLayer_7 (by decide) (fun c_7 => ?_) (fun c_7 => ?_)
  · have h := br_T h c_7
    refine lv_aload_n hx hb dX6_removeLayer_20 rfl (lv_at hl 0 rfl) ?_
    refine va_get (D := G.1) (ci := 7) (v := .ref (q 3)) (C := RX6) (T := TX6) (N := 7) hx hb hts in_wsX6_removeLayer_X6 hown hK.1 hP 0 rfl rfl 2 (by decide) (w_mem hts 3 rfl) (fun _ h9 => h9) rfl dX6_removeLayer_21 ?_
    refine lv_dup hx hb dX6_removeLayer_24 rfl ?_
    refine va_getN (D := G.1) (ci := 4) (v := .int (C.1 6)) (C := RX2) (T := TX2) (N := 5) hx hb hts in_wsX6_removeLayer_X2 hown hK.1 hP 3 rfl rfl 4 (by decide) (hK.2.at 44 rfl) (fun _ h9 => h9) rfl dX6_removeLayer_25 ?_
    refine lv_iconst (v := 1) hx hb dX6_removeLayer_28 (by decide) ?_
    refine lv_isub hx hb dX6_removeLayer_29 ?_
    refine va_putN (D := G.1) (ci := 4) (v := .int ((C.1 6) - 1)) (ty := .int) (C := RX2) (T := TX2) (N := 5) hx hb hts in_wsX6_removeLayer_X2 tyX2 tyX2_ok nmX2 hown hK.1 hP hD hS 3 rfl rfl 4 (by decide) (hK.2.at 44 rfl) (fun _ h9 => h9) rfl (by decide +kernel) rfl rfl (Nat.le_of_ble_eq_true rfl) dX6_removeLayer_30 (fun H locs hP hD hS => ?_)
    have hP : va_P G.1 vwCl (CW G q (sS C 6 ((C.1 6) - 1))) H := hP
    have hD : va_D A (CW G q (sS C 6 ((C.1 6) - 1))) := hD
    obtain ⟨C_1, eC_1, h⟩ := ltv_ex h
    rw [← eC_1] at hP hD
    refine lv_aload_n hx hb dX6_removeLayer_33 rfl (lv_at hl 0 rfl) ?_
    refine va_get (D := G.1) (ci := 7) (v := .ref (q 3)) (C := RX6) (T := TX6) (N := 7) hx hb hts in_wsX6_removeLayer_X6 hown hK.1 hP 0 rfl rfl 2 (by decide) (w_mem hts 3 rfl) (fun _ h9 => h9) rfl dX6_removeLayer_34 ?_
    refine va_getN (D := G.1) (ci := 4) (v := .int (C_1.1 6)) (C := RX2) (T := TX2) (N := 5) hx hb hts in_wsX6_removeLayer_X2 hown hK.1 hP 3 rfl rfl 4 (by decide) (hK.2.at 44 rfl) (fun _ h9 => h9) rfl dX6_removeLayer_37 ?_
    refine lv_iconst (v := 1) hx hb dX6_removeLayer_40 (by decide) ?_
    refine lv_iadd hx hb dX6_removeLayer_41 ?_
    cases h
  · have h := br_F h c_7
    exact x_throwS (Wd := CW G q) (C := C) (k := 3) (cls := "java/lang/IllegalStateException") (text := "no layer was added") hx hb hl0 hts hown hml hlocks hex hK hE hP hS hl (by decide +kernel) (w_mem hts 1 rfl) (w_mem hts 2 rfl) (List.mem_of_getElem? (i := 12) rfl) (fun w h => List.mem_cons_of_mem _ (List.mem_append_right _ h)) xB_63 xG_63_59 dX6_removeLayer_10 dX6_removeLayer_13 dX6_removeLayer_14 dX6_removeLayer_16 dX6_removeLayer_19 ⟨Nat.le_of_ble_eq_true rfl, Nat.le_of_ble_eq_true rfl, Nat.le_of_ble_eq_true rfl, Nat.le_of_ble_eq_true rfl⟩ ((xl_ h).symm) rfl

def rmX6_force : Room := { frames := 5, cells := 0, slots := 0, locals := 114 }

theorem in_wsX6_force_X6 : ∀ w ∈ u_ws RX6 TX6 7, w ∈ wsX6_force := by decide +kernel

set_option maxHeartbeats 4000000 in
set_option maxRecDepth 100000 in
theorem wX6_force_53 {p : Program} {l : Launch} {e : Env} {s : State} {m : MethodId} {args : Array Value} {below : List Frame} {meth : Method} {c : Code} {G : GT} {q : Nat → Nat} {A : Nat → Prop} {out : Int32 × St} (bx : BX p RX6 wsX6_force cX6_force 4 (some .int) s m args meth c) (hA : ∀ q : Nat, s.heap.size ≤ q → A q) (hK : CK G s) (C : St) (x3 : Int32) (h : pX6_force_53 C x3 = some (.inr out)) {H : Heap} {locs : List Loc} (hP : va_P G.1 vwCl (CW G q C) H) (hD : va_D A (CW G q C)) (hS : va_S A s.heap H locs) (ls : Array Slot) (hl : lv_has ls 4 [(3, .int x3)]) : W p l e rmX6_force s m args below meth c H locs 0 0 (MQi G (CW G q) A s args below out) (F0 m 53 ls []) := by
  obtain ⟨hx, hb, hr, hts, hown, hml, hlocks⟩ := id bx
  unfold pX6_force_53 at h
  refine lv_iload_n hx hb dX6_force_53 rfl (lv_at hl 0 rfl) ?_
  obtain ⟨r_6, hr_6, h⟩ := bd_ex h
  refine ro_i (va_runS (As := [.int x3]) (rest := []) ⟨hx, hb, hml, hown, hts⟩ (kJ6_bitCount_0f7a4 l x3 r_6 hr_6) (va_cwS 1 hts gX6_force_J6_bitCount_0f7a4 rfl rfl rfl (by decide +kernel) ⟨Nat.le_of_ble_eq_true rfl, Nat.le_of_ble_eq_true rfl⟩) noS rfl rfl hl.1 rfl (lv_room (Nat.le_of_ble_eq_true rfl)) dX6_force_54 ⟨Nat.zero_le _, Nat.zero_le _⟩) ?_
  exact MQi.end hx hb hr hlocks hP hS dX6_force_57 rfl (nn_ h)

set_option maxHeartbeats 4000000 in
set_option maxRecDepth 100000 in
theorem kX6_force (l : Launch) (G : GT) (q : Nat → Nat) (C : St) (sz : Nat) (x1 : Int32) (x2 : Int32) (r : Int32 × St) (h : pX6_force C x1 x2 = some (.inr r)) : Met l yX6_force wsX6_force rmX6_force (va_Pc [.ref (q 0), .int x1, .int x2] (wrP G (CW G q C) sz)) (va_Qi (fun v u => (v, u) = r) (fun u t => va_P G.1 vwCl (CW G q u) t.heap) (va_A (CW G q C) sz)) 0 0 (va_A (CW G q C) sz) := by
  refine Met.ofW (cc := cX6_force) (maxL := 4) (ret := (some .int)) (by decide) rfl ?_
  intro p e s m args below meth c s₁ B hml hv
  obtain ⟨rfl, hsz, hP, hK, hD0⟩ := hv
  have bx := bx_of B hml
  subst hsz
  have hD := hD0.self (sz := s.heap.size)
  generalize hAe : va_A (CW G q C) s.heap.size = A at hD ⊢
  have hA : ∀ q : Nat, s.heap.size ≤ q → A q := fun q h => by rw [← hAe]; exact Or.inr h
  have hS : va_S A s.heap s.heap [] := va_S.rf
  obtain ⟨hx, hb, hr, hts, hown, hml, hlocks⟩ := id bx
  have hl := lv_entry ([.ref (q 0), .int x1, .int x2]) (n := 4) (Nat.le_of_ble_eq_true rfl)
  rw [lg_entry_eq]
  generalize (lg_sl ([.ref (q 0), .int x1, .int x2]) ++ List.replicate (4 - (lg_sl ([.ref (q 0), .int x1, .int x2])).length) Slot.unset).toArray = ls at hl ⊢
  have hl : lv_has ls 4 [(0, .ref (q 0)), (1, .int x1), (2, .int x2)] := hl
  show W p l e rmX6_force s m _ below meth c s.heap [] 0 0 (MQi G (CW G q) A s _ below r) (F0 m 0 ls [])
  unfold pX6_force at h
  refine lv_aload_n hx hb dX6_force_0 rfl (lv_at hl 0 rfl) ?_
  refine lv_iload_n hx hb dX6_force_1 rfl (lv_at hl 1 rfl) ?_
  obtain ⟨r_1, hr_1, h⟩ := tb_N h
  refine ro_v (va_runV (As := [.int x1]) (rest := []) ⟨hx, hb, hml, hown, hts⟩ (kX6_checkFeature l G q C x1 r_1 hr_1) (cwV 1 hts gX6_force_X6_checkFeature rfl rfl rfl (by decide +kernel) ⟨Nat.le_of_ble_eq_true rfl, Nat.le_of_ble_eq_true rfl⟩) (roV hP hK 7 0 rfl rfl) rfl rfl hl.1 rfl (lv_room (Nat.le_of_ble_eq_true rfl)) dX6_force_2 ⟨Nat.zero_le _, Nat.zero_le _⟩) ?_
  refine lv_aload_n hx hb dX6_force_5 rfl (lv_at hl 0 rfl) ?_
  refine lv_iload_n hx hb dX6_force_6 rfl (lv_at hl 1 rfl) ?_
  obtain ⟨r_2, hr_2, h⟩ := tb_N h
  refine ro_v (va_runV (As := [.int x1]) (rest := []) ⟨hx, hb, hml, hown, hts⟩ (kX6_checkNotRoot l G q C x1 r_2 hr_2) (cwV 1 hts gX6_force_X6_checkNotRoot rfl rfl rfl (by decide +kernel) ⟨Nat.le_of_ble_eq_true rfl, Nat.le_of_ble_eq_true rfl⟩) (roV hP hK 7 0 rfl rfl) rfl rfl hl.1 rfl (lv_room (Nat.le_of_ble_eq_true rfl)) dX6_force_7 ⟨Nat.zero_le _, Nat.zero_le _⟩) ?_
  refine lv_aload_n hx hb dX6_force_10 rfl (lv_at hl 0 rfl) ?_
  refine lv_iload_n hx hb dX6_force_11 rfl (lv_at hl 1 rfl) ?_
  refine lv_iload_n hx hb dX6_force_12 rfl (lv_at hl 2 rfl) ?_
  obtain ⟨r_3, hr_3, h⟩ := tb_N h
  refine ro_i (va_runV (As := [.int x1, .int x2]) (rest := []) ⟨hx, hb, hml, hown, hts⟩ (kX6_decisionsAgainst l G q C x1 x2 r_3 hr_3) (cwV 2 hts gX6_force_X6_decisionsAgainst rfl rfl rfl (by decide +kernel) ⟨Nat.le_of_ble_eq_true rfl, Nat.le_of_ble_eq_true rfl⟩) (roV hP hK 7 0 rfl rfl) rfl rfl hl.1 rfl (lv_room (Nat.le_of_ble_eq_true rfl)) dX6_force_13 ⟨Nat.zero_le _, Nat.zero_le _⟩) ?_
  refine lv_istore_n (lv' := [(3, .int r_3), (0, .ref (q 0)), (1, .int x1), (2, .int x2)]) hx hb dX6_force_16 rfl hl (by decide) rfl (fun ls hl => ?_)
  refine lv_aload_n hx hb dX6_force_17 rfl (lv_at hl 1 rfl) ?_
  refine lv_iload_n hx hb dX6_force_18 rfl (lv_at hl 0 rfl) ?_
  obtain ⟨u_4, hu_4, h⟩ := bd_ex h
  refine wr_v (Wd := CW G q) (va_runV (As := [.int r_3]) (rest := []) ⟨hx, hb, hml, hown, hts⟩ (kX6_takeBack l G q C _ r_3 u_4 hu_4) (cwV 1 hts gX6_force_X6_takeBack rfl rfl rfl (by decide +kernel) ⟨Nat.le_of_ble_eq_true rfl, Nat.le_of_ble_eq_true rfl⟩) (wrV hP hD hK 7 0 rfl rfl) rfl rfl hl.1 rfl (lv_room (Nat.le_of_ble_eq_true rfl)) dX6_force_19 ⟨Nat.zero_le _, Nat.zero_le _⟩) hD hS hA (fun _ => rfl) (fun H locs hP hD hS => ?_)
  refine lv_iload_n hx hb dX6_force_22 rfl (lv_at hl 3 rfl) ?_
  refine lv_if_eq (tgt := 41) hx hb dX6_force_23 (by decide) (fun c_23 => ?_) (fun c_23 => ?_)
  · have h := br_T h c_23
    refine lv_aload_n hx hb dX6_force_41 rfl (lv_at hl 1 rfl) ?_
    refine lv_dup hx hb dX6_force_42 rfl ?_
    refine va_get (D := G.1) (ci := 7) (v := .int (u_4.1 1)) (C := RX6) (T := TX6) (N := 7) hx hb hts in_wsX6_force_X6 hown hK.1 hP 0 rfl rfl 6 (by decide) (w_mem hts 2 rfl) (fun _ h9 => h9) rfl dX6_force_43 ?_
    refine lv_iconst (v := 1) hx hb dX6_force_46 (by decide) ?_
    refine lv_iload_n hx hb dX6_force_47 rfl (lv_at hl 2 rfl) ?_
    refine lv_ishl hx hb dX6_force_48 ?_
    refine lv_ior hx hb dX6_force_49 ?_
    refine va_put (D := G.1) (ci := 7) (v := .int ((u_4.1 1) ||| ((1 : Int32) <<< (x1 &&& 31)))) (ty := .int) (C := RX6) (T := TX6) (N := 7) hx hb hts in_wsX6_force_X6 tyX6 tyX6_ok nmX6 hown hK.1 hP hD hS 0 rfl rfl 6 (by decide) (w_mem hts 2 rfl) (fun _ h9 => h9) rfl (by decide +kernel) rfl rfl (Nat.le_of_ble_eq_true rfl) dX6_force_50 (fun H locs hP hD hS => ?_)
    have hP : va_P G.1 vwCl (CW G q (sS u_4 1 ((u_4.1 1) ||| ((1 : Int32) <<< (x1 &&& 31))))) H := hP
    have hD : va_D A (CW G q (sS u_4 1 ((u_4.1 1) ||| ((1 : Int32) <<< (x1 &&& 31))))) := hD
    obtain ⟨C_5, eC_5, h⟩ := ltv_ex h
    rw [← eC_5] at hP hD
    exact wX6_force_53 bx hA hK C_5 r_3 h hP hD hS _ (lv_sub hl [0] rfl)
  · have h := br_F h c_23
    refine lv_aload_n hx hb dX6_force_26 rfl (lv_at hl 1 rfl) ?_
    refine lv_dup hx hb dX6_force_27 rfl ?_
    refine va_get (D := G.1) (ci := 7) (v := .int (u_4.1 0)) (C := RX6) (T := TX6) (N := 7) hx hb hts in_wsX6_force_X6 hown hK.1 hP 0 rfl rfl 5 (by decide) (w_mem hts 1 rfl) (fun _ h9 => h9) rfl dX6_force_28 ?_
    refine lv_iconst (v := 1) hx hb dX6_force_31 (by decide) ?_
    refine lv_iload_n hx hb dX6_force_32 rfl (lv_at hl 2 rfl) ?_
    refine lv_ishl hx hb dX6_force_33 ?_
    refine lv_ior hx hb dX6_force_34 ?_
    refine va_put (D := G.1) (ci := 7) (v := .int ((u_4.1 0) ||| ((1 : Int32) <<< (x1 &&& 31)))) (ty := .int) (C := RX6) (T := TX6) (N := 7) hx hb hts in_wsX6_force_X6 tyX6 tyX6_ok nmX6 hown hK.1 hP hD hS 0 rfl rfl 5 (by decide) (w_mem hts 1 rfl) (fun _ h9 => h9) rfl (by decide +kernel) rfl rfl (Nat.le_of_ble_eq_true rfl) dX6_force_35 (fun H locs hP hD hS => ?_)
    have hP : va_P G.1 vwCl (CW G q (sS u_4 0 ((u_4.1 0) ||| ((1 : Int32) <<< (x1 &&& 31))))) H := hP
    have hD : va_D A (CW G q (sS u_4 0 ((u_4.1 0) ||| ((1 : Int32) <<< (x1 &&& 31))))) := hD
    obtain ⟨C_7, eC_7, h⟩ := ltv_ex h
    rw [← eC_7] at hP hD
    refine lv_goto (tgt := 53) hx hb dX6_force_38 (by decide) ?_
    exact wX6_force_53 bx hA hK C_7 r_3 h hP hD hS _ (lv_sub hl [0] rfl)

def rxX6_force : Room := { frames := 7, cells := 1, slots := 6, locals := 125 }

set_option maxHeartbeats 4000000 in
set_option maxRecDepth 100000 in
theorem xX6_force_53 {p : Program} {l : Launch} {e : Env} {s : State} {m : MethodId} {args : Array Value} {below : List Frame} {meth : Method} {c : Code} {G : GT} {q : Nat → Nat} {A : Nat → Prop} {out : Nat × St} (bx : BX p RX6 wsX6_force cX6_force 4 (some .int) s m args meth c) (hA : ∀ q : Nat, s.heap.size ≤ q → A q) (hK : CK G s) (hl0 : l.stackTraces = false) (hE : XE A s) (hex : ∀ x ∈ c.exceptionTable.toList, False) (C : St) (x3 : Int32) (h : pX6_force_53 C x3 = some (.inl out)) {H : Heap} {locs : List Loc} (hP : va_P G.1 vwCl (CW G q C) H) (hD : va_D A (CW G q C)) (hS : va_S A s.heap H locs) (ls : Array Slot) (hl : lv_has ls 4 [(3, .int x3)]) : W p l e rxX6_force s m args below meth c H locs 0 0 (MQx G (CW G q) A s args below out) (F0 m 53 ls []) := by
  obtain ⟨hx, hb, hr, hts, hown, hml, hlocks⟩ := id bx
  unfold pX6_force_53 at h
  refine lv_iload_n hx hb dX6_force_53 rfl (lv_at hl 0 rfl) ?_
  obtain ⟨r_6, hr_6, h⟩ := bd_ex h
  refine ro_i (va_runS (As := [.int x3]) (rest := []) ⟨hx, hb, hml, hown, hts⟩ (kJ6_bitCount_0f7a4 l x3 r_6 hr_6) (va_cwS 1 hts gX6_force_J6_bitCount_0f7a4 rfl rfl rfl (by decide +kernel) ⟨Nat.le_of_ble_eq_true rfl, Nat.le_of_ble_eq_true rfl⟩) noS rfl rfl hl.1 rfl (lv_room (Nat.le_of_ble_eq_true rfl)) dX6_force_54 ⟨Nat.zero_le _, Nat.zero_le _⟩) ?_
  cases h

set_option maxHeartbeats 4000000 in
set_option maxRecDepth 100000 in
theorem xX6_force (l : Launch) (hl0 : l.stackTraces = false) (G : GT) (q : Nat → Nat) (C : St) (sz : Nat) (x1 : Int32) (x2 : Int32) (r : Nat × St) (h : pX6_force C x1 x2 = some (.inl r)) : vx_Met l yX6_force wsX6_force rxX6_force (va_Pc [.ref (q 0), .int x1, .int x2] (xP G (CW G q C) sz)) (fun _ _ _ _ => False) (XCf G (CW G q) (va_A (CW G q C) sz) r) 1 6 (va_A (CW G q C) sz) := by
  refine vx_ofW (cc := cX6_force) (maxL := 4) (ret := (some .int)) (by decide) rfl ?_
  intro p e s m args below meth c s₁ B hml hex hv
  obtain ⟨rfl, ⟨hsz, hP, hK, hD0⟩, hE⟩ := hv
  have bx := bx_of B hml
  subst hsz
  have hD := hD0.self (sz := s.heap.size)
  generalize hAe : va_A (CW G q C) s.heap.size = A at hD hE ⊢
  have hA : ∀ q : Nat, s.heap.size ≤ q → A q := fun q h => by rw [← hAe]; exact Or.inr h
  have hS : va_S A s.heap s.heap [] := va_S.rf
  obtain ⟨hx, hb, hr, hts, hown, hml, hlocks⟩ := id bx
  have hl := lv_entry ([.ref (q 0), .int x1, .int x2]) (n := 4) (Nat.le_of_ble_eq_true rfl)
  rw [lg_entry_eq]
  generalize (lg_sl ([.ref (q 0), .int x1, .int x2]) ++ List.replicate (4 - (lg_sl ([.ref (q 0), .int x1, .int x2])).length) Slot.unset).toArray = ls at hl ⊢
  have hl : lv_has ls 4 [(0, .ref (q 0)), (1, .int x1), (2, .int x2)] := hl
  show W p l e rxX6_force s m _ below meth c s.heap [] 0 0 (MQx G (CW G q) A s _ below r) (F0 m 0 ls [])
  unfold pX6_force at h
  refine lv_aload_n hx hb dX6_force_0 rfl (lv_at hl 0 rfl) ?_
  refine lv_iload_n hx hb dX6_force_1 rfl (lv_at hl 1 rfl) ?_
  rcases tb_X h with ⟨er_1, hr_1, h⟩ | ⟨r_1, hr_1, h⟩
  · exact x_prop (Wd := CW G q) (vx_runV (As := [.int x1]) (rest := []) ⟨hx, hb, hml, hown, hts⟩ (xX6_checkFeature l hl0 G q C _ x1 er_1 hr_1) (cwV 1 hts gX6_force_X6_checkFeature rfl rfl rfl (by decide +kernel) ⟨Nat.le_of_ble_eq_true rfl, Nat.le_of_ble_eq_true rfl⟩) (xV hP hD hS hK hA hE 7 0 rfl rfl) rfl rfl hl.1 rfl (lv_room (Nat.le_of_ble_eq_true rfl)) dX6_force_2 ⟨Nat.le_of_ble_eq_true rfl, Nat.le_of_ble_eq_true rfl⟩) hD hS hA (fun _ => rfl) hex hlocks h
  refine ro_v (va_runV (As := [.int x1]) (rest := []) ⟨hx, hb, hml, hown, hts⟩ (kX6_checkFeature l G q C x1 r_1 hr_1) (cwV 1 hts gX6_force_X6_checkFeature rfl rfl rfl (by decide +kernel) ⟨Nat.le_of_ble_eq_true rfl, Nat.le_of_ble_eq_true rfl⟩) (roV hP hK 7 0 rfl rfl) rfl rfl hl.1 rfl (lv_room (Nat.le_of_ble_eq_true rfl)) dX6_force_2 ⟨Nat.zero_le _, Nat.zero_le _⟩) ?_
  refine lv_aload_n hx hb dX6_force_5 rfl (lv_at hl 0 rfl) ?_
  refine lv_iload_n hx hb dX6_force_6 rfl (lv_at hl 1 rfl) ?_
  rcases tb_X h with ⟨er_2, hr_2, h⟩ | ⟨r_2, hr_2, h⟩
  · exact x_prop (Wd := CW G q) (vx_runV (As := [.int x1]) (rest := []) ⟨hx, hb, hml, hown, hts⟩ (xX6_checkNotRoot l hl0 G q C _ x1 er_2 hr_2) (cwV 1 hts gX6_force_X6_checkNotRoot rfl rfl rfl (by decide +kernel) ⟨Nat.le_of_ble_eq_true rfl, Nat.le_of_ble_eq_true rfl⟩) (xV hP hD hS hK hA hE 7 0 rfl rfl) rfl rfl hl.1 rfl (lv_room (Nat.le_of_ble_eq_true rfl)) dX6_force_7 ⟨Nat.le_of_ble_eq_true rfl, Nat.le_of_ble_eq_true rfl⟩) hD hS hA (fun _ => rfl) hex hlocks h
  refine ro_v (va_runV (As := [.int x1]) (rest := []) ⟨hx, hb, hml, hown, hts⟩ (kX6_checkNotRoot l G q C x1 r_2 hr_2) (cwV 1 hts gX6_force_X6_checkNotRoot rfl rfl rfl (by decide +kernel) ⟨Nat.le_of_ble_eq_true rfl, Nat.le_of_ble_eq_true rfl⟩) (roV hP hK 7 0 rfl rfl) rfl rfl hl.1 rfl (lv_room (Nat.le_of_ble_eq_true rfl)) dX6_force_7 ⟨Nat.zero_le _, Nat.zero_le _⟩) ?_
  refine lv_aload_n hx hb dX6_force_10 rfl (lv_at hl 0 rfl) ?_
  refine lv_iload_n hx hb dX6_force_11 rfl (lv_at hl 1 rfl) ?_
  refine lv_iload_n hx hb dX6_force_12 rfl (lv_at hl 2 rfl) ?_
  rcases tb_X h with ⟨er_3, hr_3, h⟩ | ⟨r_3, hr_3, h⟩
  · exact x_prop (Wd := CW G q) (vx_runV (As := [.int x1, .int x2]) (rest := []) ⟨hx, hb, hml, hown, hts⟩ (xX6_decisionsAgainst l hl0 G q C _ x1 x2 er_3 hr_3) (cwV 2 hts gX6_force_X6_decisionsAgainst rfl rfl rfl (by decide +kernel) ⟨Nat.le_of_ble_eq_true rfl, Nat.le_of_ble_eq_true rfl⟩) (xV hP hD hS hK hA hE 7 0 rfl rfl) rfl rfl hl.1 rfl (lv_room (Nat.le_of_ble_eq_true rfl)) dX6_force_13 ⟨Nat.le_of_ble_eq_true rfl, Nat.le_of_ble_eq_true rfl⟩) hD hS hA (fun _ => rfl) hex hlocks h
  refine ro_i (va_runV (As := [.int x1, .int x2]) (rest := []) ⟨hx, hb, hml, hown, hts⟩ (kX6_decisionsAgainst l G q C x1 x2 r_3 hr_3) (cwV 2 hts gX6_force_X6_decisionsAgainst rfl rfl rfl (by decide +kernel) ⟨Nat.le_of_ble_eq_true rfl, Nat.le_of_ble_eq_true rfl⟩) (roV hP hK 7 0 rfl rfl) rfl rfl hl.1 rfl (lv_room (Nat.le_of_ble_eq_true rfl)) dX6_force_13 ⟨Nat.zero_le _, Nat.zero_le _⟩) ?_
  refine lv_istore_n (lv' := [(3, .int r_3), (0, .ref (q 0)), (1, .int x1), (2, .int x2)]) hx hb dX6_force_16 rfl hl (by decide) rfl (fun ls hl => ?_)
  refine lv_aload_n hx hb dX6_force_17 rfl (lv_at hl 1 rfl) ?_
  refine lv_iload_n hx hb dX6_force_18 rfl (lv_at hl 0 rfl) ?_
  obtain ⟨u_4, hu_4, h⟩ := bd_ex h
  refine wr_v (Wd := CW G q) (va_runV (As := [.int r_3]) (rest := []) ⟨hx, hb, hml, hown, hts⟩ (kX6_takeBack l G q C _ r_3 u_4 hu_4) (cwV 1 hts gX6_force_X6_takeBack rfl rfl rfl (by decide +kernel) ⟨Nat.le_of_ble_eq_true rfl, Nat.le_of_ble_eq_true rfl⟩) (wrV hP hD hK 7 0 rfl rfl) rfl rfl hl.1 rfl (lv_room (Nat.le_of_ble_eq_true rfl)) dX6_force_19 ⟨Nat.zero_le _, Nat.zero_le _⟩) hD hS hA (fun _ => rfl) (fun H locs hP hD hS => ?_)
  refine lv_iload_n hx hb dX6_force_22 rfl (lv_at hl 3 rfl) ?_
  refine lv_if_eq (tgt := 41) hx hb dX6_force_23 (by decide) (fun c_23 => ?_) (fun c_23 => ?_)
  · have h := br_T h c_23
    refine lv_aload_n hx hb dX6_force_41 rfl (lv_at hl 1 rfl) ?_
    refine lv_dup hx hb dX6_force_42 rfl ?_
    refine va_get (D := G.1) (ci := 7) (v := .int (u_4.1 1)) (C := RX6) (T := TX6) (N := 7) hx hb hts in_wsX6_force_X6 hown hK.1 hP 0 rfl rfl 6 (by decide) (w_mem hts 2 rfl) (fun _ h9 => h9) rfl dX6_force_43 ?_
    refine lv_iconst (v := 1) hx hb dX6_force_46 (by decide) ?_
    refine lv_iload_n hx hb dX6_force_47 rfl (lv_at hl 2 rfl) ?_
    refine lv_ishl hx hb dX6_force_48 ?_
    refine lv_ior hx hb dX6_force_49 ?_
    refine va_put (D := G.1) (ci := 7) (v := .int ((u_4.1 1) ||| ((1 : Int32) <<< (x1 &&& 31)))) (ty := .int) (C := RX6) (T := TX6) (N := 7) hx hb hts in_wsX6_force_X6 tyX6 tyX6_ok nmX6 hown hK.1 hP hD hS 0 rfl rfl 6 (by decide) (w_mem hts 2 rfl) (fun _ h9 => h9) rfl (by decide +kernel) rfl rfl (Nat.le_of_ble_eq_true rfl) dX6_force_50 (fun H locs hP hD hS => ?_)
    have hP : va_P G.1 vwCl (CW G q (sS u_4 1 ((u_4.1 1) ||| ((1 : Int32) <<< (x1 &&& 31))))) H := hP
    have hD : va_D A (CW G q (sS u_4 1 ((u_4.1 1) ||| ((1 : Int32) <<< (x1 &&& 31))))) := hD
    obtain ⟨C_5, eC_5, h⟩ := ltv_ex h
    rw [← eC_5] at hP hD
    exact xX6_force_53 bx hA hK hl0 hE hex C_5 r_3 h hP hD hS _ (lv_sub hl [0] rfl)
  · have h := br_F h c_23
    refine lv_aload_n hx hb dX6_force_26 rfl (lv_at hl 1 rfl) ?_
    refine lv_dup hx hb dX6_force_27 rfl ?_
    refine va_get (D := G.1) (ci := 7) (v := .int (u_4.1 0)) (C := RX6) (T := TX6) (N := 7) hx hb hts in_wsX6_force_X6 hown hK.1 hP 0 rfl rfl 5 (by decide) (w_mem hts 1 rfl) (fun _ h9 => h9) rfl dX6_force_28 ?_
    refine lv_iconst (v := 1) hx hb dX6_force_31 (by decide) ?_
    refine lv_iload_n hx hb dX6_force_32 rfl (lv_at hl 2 rfl) ?_
    refine lv_ishl hx hb dX6_force_33 ?_
    refine lv_ior hx hb dX6_force_34 ?_
    refine va_put (D := G.1) (ci := 7) (v := .int ((u_4.1 0) ||| ((1 : Int32) <<< (x1 &&& 31)))) (ty := .int) (C := RX6) (T := TX6) (N := 7) hx hb hts in_wsX6_force_X6 tyX6 tyX6_ok nmX6 hown hK.1 hP hD hS 0 rfl rfl 5 (by decide) (w_mem hts 1 rfl) (fun _ h9 => h9) rfl (by decide +kernel) rfl rfl (Nat.le_of_ble_eq_true rfl) dX6_force_35 (fun H locs hP hD hS => ?_)
    have hP : va_P G.1 vwCl (CW G q (sS u_4 0 ((u_4.1 0) ||| ((1 : Int32) <<< (x1 &&& 31))))) H := hP
    have hD : va_D A (CW G q (sS u_4 0 ((u_4.1 0) ||| ((1 : Int32) <<< (x1 &&& 31))))) := hD
    obtain ⟨C_7, eC_7, h⟩ := ltv_ex h
    rw [← eC_7] at hP hD
    refine lv_goto (tgt := 53) hx hb dX6_force_38 (by decide) ?_
    exact xX6_force_53 bx hA hK hl0 hE hex C_7 r_3 h hP hD hS _ (lv_sub hl [0] rfl)

def rmX6_lineAt : Room := { frames := 7, cells := 0, slots := 0, locals := 159 }

theorem in_wsX6_lineAt_X6 : ∀ w ∈ u_ws RX6 TX6 7, w ∈ wsX6_lineAt := by decide +kernel

theorem in_wsX6_lineAt_X1 : ∀ w ∈ u_ws RX1 TX1 2, w ∈ wsX6_lineAt := by decide +kernel

set_option maxHeartbeats 4000000 in
set_option maxRecDepth 100000 in
theorem wX6_lineAt_19 {p : Program} {l : Launch} {e : Env} {s : State} {m : MethodId} {args : Array Value} {below : List Frame} {meth : Method} {c : Code} {G : GT} {q : Nat → Nat} {A : Nat → Prop} {out : Int32 × St} (bx : BX p RX6 wsX6_lineAt cX6_lineAt 2 (some .char) s m args meth c) (hA : ∀ q : Nat, s.heap.size ≤ q → A q) (hK : CK G s) (C : St) (h : pX6_lineAt_19 C = some (.inr out)) {H : Heap} {locs : List Loc} (hP : va_P G.1 vwCl (CW G q C) H) (hD : va_D A (CW G q C)) (hS : va_S A s.heap H locs) (ls : Array Slot) (hl : lv_has ls 2 []) : W p l e rmX6_lineAt s m args below meth c H locs 0 0 (MQi G (CW G q) A s args below out) (F0 m 19 ls []) := by
  obtain ⟨hx, hb, hr, hts, hown, hml, hlocks⟩ := id bx
  unfold pX6_lineAt_19 at h
  cases h

set_option maxHeartbeats 4000000 in
set_option maxRecDepth 100000 in
theorem kX6_lineAt (l : Launch) (G : GT) (q : Nat → Nat) (C : St) (sz : Nat) (x1 : Int32) (r : Int32 × St) (h : pX6_lineAt C x1 = some (.inr r)) : Met l yX6_lineAt wsX6_lineAt rmX6_lineAt (va_Pc [.ref (q 0), .int x1] (wrP G (CW G q C) sz)) (va_Qi (fun v u => (v, u) = r) (fun u t => va_P G.1 vwCl (CW G q u) t.heap) (va_A (CW G q C) sz)) 0 0 (va_A (CW G q C) sz) := by
  refine Met.ofW (cc := cX6_lineAt) (maxL := 2) (ret := (some .char)) (by decide) rfl ?_
  intro p e s m args below meth c s₁ B hml hv
  obtain ⟨rfl, hsz, hP, hK, hD0⟩ := hv
  have bx := bx_of B hml
  subst hsz
  have hD := hD0.self (sz := s.heap.size)
  generalize hAe : va_A (CW G q C) s.heap.size = A at hD ⊢
  have hA : ∀ q : Nat, s.heap.size ≤ q → A q := fun q h => by rw [← hAe]; exact Or.inr h
  have hS : va_S A s.heap s.heap [] := va_S.rf
  obtain ⟨hx, hb, hr, hts, hown, hml, hlocks⟩ := id bx
  have hl := lv_entry ([.ref (q 0), .int x1]) (n := 2) (Nat.le_of_ble_eq_true rfl)
  rw [lg_entry_eq]
  generalize (lg_sl ([.ref (q 0), .int x1]) ++ List.replicate (2 - (lg_sl ([.ref (q 0), .int x1])).length) Slot.unset).toArray = ls at hl ⊢
  have hl : lv_has ls 2 [(0, .ref (q 0)), (1, .int x1)] := hl
  show W p l e rmX6_lineAt s m _ below meth c s.heap [] 0 0 (MQi G (CW G q) A s _ below r) (F0 m 0 ls [])
  unfold pX6_lineAt at h
  refine lv_aload_n hx hb dX6_lineAt_0 rfl (lv_at hl 0 rfl) ?_
  obtain ⟨u_1, hu_1, h⟩ := bd_ex h
  refine wr_v (Wd := CW G q) (va_runV (As := []) (rest := []) ⟨hx, hb, hml, hown, hts⟩ (kX6_writeLine l G q C _ u_1 hu_1) (cwV 0 hts gX6_lineAt_X6_writeLine rfl rfl rfl (by decide +kernel) ⟨Nat.le_of_ble_eq_true rfl, Nat.le_of_ble_eq_true rfl⟩) (wrV hP hD hK 7 0 rfl rfl) rfl rfl hl.1 rfl (lv_room (Nat.le_of_ble_eq_true rfl)) dX6_lineAt_1 ⟨Nat.zero_le _, Nat.zero_le _⟩) hD hS hA (fun _ => rfl) (fun H locs hP hD hS => ?_)
  refine lv_iload_n hx hb dX6_lineAt_4 rfl (lv_at hl 1 rfl) ?_
  refine lv_if_lt (tgt := 19) hx hb dX6_lineAt_5 (by decide) (fun c_5 => ?_) (fun c_5 => ?_)
  · have h := br_T h c_5
    exact wX6_lineAt_19 bx hA hK u_1 h hP hD hS _ (lv_sub hl [] rfl)
  · have h := br_F h c_5
    refine lv_iload_n hx hb dX6_lineAt_8 rfl (lv_at hl 1 rfl) ?_
    refine lv_aload_n hx hb dX6_lineAt_9 rfl (lv_at hl 0 rfl) ?_
    refine va_get (D := G.1) (ci := 7) (v := .ref (q 5)) (C := RX6) (T := TX6) (N := 7) hx hb hts in_wsX6_lineAt_X6 hown hK.1 hP 0 rfl rfl 4 (by decide) (w_mem hts 3 rfl) (fun _ h9 => h9) rfl dX6_lineAt_10 ?_
    refine va_getN (D := G.1) (ci := 3) (v := .int (u_1.1 9)) (C := RX1) (T := TX1) (N := 2) hx hb hts in_wsX6_lineAt_X1 hown hK.1 hP 5 rfl rfl 1 (by decide) (hK.2.at 45 rfl) (fun _ h9 => h9) rfl dX6_lineAt_13 ?_
    refine lv_icmp_lt (tgt := 29) hx hb dX6_lineAt_16 (by decide) (fun c_16 => ?_) (fun c_16 => ?_)
    · have h := br_T h c_16
      refine lv_aload_n hx hb dX6_lineAt_29 rfl (lv_at hl 0 rfl) ?_
      refine va_get (D := G.1) (ci := 7) (v := .ref (q 5)) (C := RX6) (T := TX6) (N := 7) hx hb hts in_wsX6_lineAt_X6 hown hK.1 hP 0 rfl rfl 4 (by decide) (w_mem hts 3 rfl) (fun _ h9 => h9) rfl dX6_lineAt_30 ?_
      refine va_getN (D := G.1) (ci := 3) (v := .ref (q 19)) (C := RX1) (T := TX1) (N := 2) hx hb hts in_wsX6_lineAt_X1 hown hK.1 hP 5 rfl rfl 0 (by decide) (hK.2.at 46 rfl) (fun _ h9 => h9) rfl dX6_lineAt_33 ?_
      refine lv_iload_n hx hb dX6_lineAt_36 rfl (lv_at hl 1 rfl) ?_
      obtain ⟨g37, h⟩ := gd_ex h
      refine va_cald (D := G.1) hx hb hK.1 hP 19 1 rfl rfl g37 dX6_lineAt_37 ?_
      obtain ⟨g38, h⟩ := gd_ex h
      exact MQi.end hx hb hr hlocks hP hS dX6_lineAt_38 (okC_n g38) (nn_ h)
    · have h := br_F h c_16
      exact wX6_lineAt_19 bx hA hK u_1 h hP hD hS _ (lv_sub hl [] rfl)

def rxX6_lineAt : Room := { frames := 7, cells := 1, slots := 6, locals := 159 }

set_option maxHeartbeats 4000000 in
set_option maxRecDepth 100000 in
theorem xX6_lineAt_19 {p : Program} {l : Launch} {e : Env} {s : State} {m : MethodId} {args : Array Value} {below : List Frame} {meth : Method} {c : Code} {G : GT} {q : Nat → Nat} {A : Nat → Prop} {out : Nat × St} (bx : BX p RX6 wsX6_lineAt cX6_lineAt 2 (some .char) s m args meth c) (hA : ∀ q : Nat, s.heap.size ≤ q → A q) (hK : CK G s) (hl0 : l.stackTraces = false) (hE : XE A s) (hex : ∀ x ∈ c.exceptionTable.toList, False) (C : St) (h : pX6_lineAt_19 C = some (.inl out)) {H : Heap} {locs : List Loc} (hP : va_P G.1 vwCl (CW G q C) H) (hD : va_D A (CW G q C)) (hS : va_S A s.heap H locs) (ls : Array Slot) (hl : lv_has ls 2 []) : W p l e rxX6_lineAt s m args below meth c H locs 0 0 (MQx G (CW G q) A s args below out) (F0 m 19 ls []) := by
  obtain ⟨hx, hb, hr, hts, hown, hml, hlocks⟩ := id bx
  unfold pX6_lineAt_19 at h
  exact x_throwS (Wd := CW G q) (C := C) (k := 1) (cls := "java/lang/IndexOutOfBoundsException") (text := "there is no such character") hx hb hl0 hts hown hml hlocks hex hK hE hP hS hl (by decide +kernel) (w_mem hts 1 rfl) (w_mem hts 2 rfl) (List.mem_of_getElem? (i := 13) rfl) (fun w h => List.mem_cons_of_mem _ (List.mem_append_right _ h)) xB_247 xG_247_243 dX6_lineAt_19 dX6_lineAt_22 dX6_lineAt_23 dX6_lineAt_25 dX6_lineAt_28 ⟨Nat.le_of_ble_eq_true rfl, Nat.le_of_ble_eq_true rfl, Nat.le_of_ble_eq_true rfl, Nat.le_of_ble_eq_true rfl⟩ ((xl_ h).symm) rfl

set_option maxHeartbeats 4000000 in
set_option maxRecDepth 100000 in
theorem xX6_lineAt (l : Launch) (hl0 : l.stackTraces = false) (G : GT) (q : Nat → Nat) (C : St) (sz : Nat) (x1 : Int32) (r : Nat × St) (h : pX6_lineAt C x1 = some (.inl r)) : vx_Met l yX6_lineAt wsX6_lineAt rxX6_lineAt (va_Pc [.ref (q 0), .int x1] (xP G (CW G q C) sz)) (fun _ _ _ _ => False) (XCf G (CW G q) (va_A (CW G q C) sz) r) 1 6 (va_A (CW G q C) sz) := by
  refine vx_ofW (cc := cX6_lineAt) (maxL := 2) (ret := (some .char)) (by decide) rfl ?_
  intro p e s m args below meth c s₁ B hml hex hv
  obtain ⟨rfl, ⟨hsz, hP, hK, hD0⟩, hE⟩ := hv
  have bx := bx_of B hml
  subst hsz
  have hD := hD0.self (sz := s.heap.size)
  generalize hAe : va_A (CW G q C) s.heap.size = A at hD hE ⊢
  have hA : ∀ q : Nat, s.heap.size ≤ q → A q := fun q h => by rw [← hAe]; exact Or.inr h
  have hS : va_S A s.heap s.heap [] := va_S.rf
  obtain ⟨hx, hb, hr, hts, hown, hml, hlocks⟩ := id bx
  have hl := lv_entry ([.ref (q 0), .int x1]) (n := 2) (Nat.le_of_ble_eq_true rfl)
  rw [lg_entry_eq]
  generalize (lg_sl ([.ref (q 0), .int x1]) ++ List.replicate (2 - (lg_sl ([.ref (q 0), .int x1])).length) Slot.unset).toArray = ls at hl ⊢
  have hl : lv_has ls 2 [(0, .ref (q 0)), (1, .int x1)] := hl
  show W p l e rxX6_lineAt s m _ below meth c s.heap [] 0 0 (MQx G (CW G q) A s _ below r) (F0 m 0 ls [])
  unfold pX6_lineAt at h
  refine lv_aload_n hx hb dX6_lineAt_0 rfl (lv_at hl 0 rfl) ?_
  obtain ⟨u_1, hu_1, h⟩ := bd_ex h
  refine wr_v (Wd := CW G q) (va_runV (As := []) (rest := []) ⟨hx, hb, hml, hown, hts⟩ (kX6_writeLine l G q C _ u_1 hu_1) (cwV 0 hts gX6_lineAt_X6_writeLine rfl rfl rfl (by decide +kernel) ⟨Nat.le_of_ble_eq_true rfl, Nat.le_of_ble_eq_true rfl⟩) (wrV hP hD hK 7 0 rfl rfl) rfl rfl hl.1 rfl (lv_room (Nat.le_of_ble_eq_true rfl)) dX6_lineAt_1 ⟨Nat.zero_le _, Nat.zero_le _⟩) hD hS hA (fun _ => rfl) (fun H locs hP hD hS => ?_)
  refine lv_iload_n hx hb dX6_lineAt_4 rfl (lv_at hl 1 rfl) ?_
  refine lv_if_lt (tgt := 19) hx hb dX6_lineAt_5 (by decide) (fun c_5 => ?_) (fun c_5 => ?_)
  · have h := br_T h c_5
    exact xX6_lineAt_19 bx hA hK hl0 hE hex u_1 h hP hD hS _ (lv_sub hl [] rfl)
  · have h := br_F h c_5
    refine lv_iload_n hx hb dX6_lineAt_8 rfl (lv_at hl 1 rfl) ?_
    refine lv_aload_n hx hb dX6_lineAt_9 rfl (lv_at hl 0 rfl) ?_
    refine va_get (D := G.1) (ci := 7) (v := .ref (q 5)) (C := RX6) (T := TX6) (N := 7) hx hb hts in_wsX6_lineAt_X6 hown hK.1 hP 0 rfl rfl 4 (by decide) (w_mem hts 3 rfl) (fun _ h9 => h9) rfl dX6_lineAt_10 ?_
    refine va_getN (D := G.1) (ci := 3) (v := .int (u_1.1 9)) (C := RX1) (T := TX1) (N := 2) hx hb hts in_wsX6_lineAt_X1 hown hK.1 hP 5 rfl rfl 1 (by decide) (hK.2.at 45 rfl) (fun _ h9 => h9) rfl dX6_lineAt_13 ?_
    refine lv_icmp_lt (tgt := 29) hx hb dX6_lineAt_16 (by decide) (fun c_16 => ?_) (fun c_16 => ?_)
    · have h := br_T h c_16
      refine lv_aload_n hx hb dX6_lineAt_29 rfl (lv_at hl 0 rfl) ?_
      refine va_get (D := G.1) (ci := 7) (v := .ref (q 5)) (C := RX6) (T := TX6) (N := 7) hx hb hts in_wsX6_lineAt_X6 hown hK.1 hP 0 rfl rfl 4 (by decide) (w_mem hts 3 rfl) (fun _ h9 => h9) rfl dX6_lineAt_30 ?_
      refine va_getN (D := G.1) (ci := 3) (v := .ref (q 19)) (C := RX1) (T := TX1) (N := 2) hx hb hts in_wsX6_lineAt_X1 hown hK.1 hP 5 rfl rfl 0 (by decide) (hK.2.at 46 rfl) (fun _ h9 => h9) rfl dX6_lineAt_33 ?_
      refine lv_iload_n hx hb dX6_lineAt_36 rfl (lv_at hl 1 rfl) ?_
      obtain ⟨g37, h⟩ := gd_ex h
      refine va_cald (D := G.1) hx hb hK.1 hP 19 1 rfl rfl g37 dX6_lineAt_37 ?_
      obtain ⟨g38, h⟩ := gd_ex h
      cases h
    · have h := br_F h c_16
      exact xX6_lineAt_19 bx hA hK hl0 hE hex u_1 h hP hD hS _ (lv_sub hl [] rfl)
