def rmX6_choose : Room := { frames := 17, cells := 0, slots := 0, locals := 434 }

theorem in_wsX6_choose_X6 : ∀ w ∈ u_ws RX6 TX6 7, w ∈ wsX6_choose := by decide +kernel

set_option maxHeartbeats 4000000 in
set_option maxRecDepth 100000 in
theorem kX6_choose (l : Launch) (G : GT) (q : Nat → Nat) (C : St) (sz : Nat) (x1 : Int32) (r : Int32 × St) (h : pX6_choose C x1 = some (.inr r)) : Met l yX6_choose wsX6_choose rmX6_choose (va_Pc [.ref (q 0), .int x1] (wrP G (CW G q C) sz)) (va_Qi (fun v u => (v, u) = r) (fun u t => va_P G.1 vwCl (CW G q u) t.heap) (va_A (CW G q C) sz)) 0 0 (va_A (CW G q C) sz) := by
  refine Met.ofW (cc := cX6_choose) (maxL := 3) (ret := (some .int)) (by decide) rfl ?_
  intro p e s m args below meth c s₁ B hml hv
  obtain ⟨rfl, hsz, hP, hK, hD0⟩ := hv
  have bx := bx_of B hml
  subst hsz
  have hD := hD0.self (sz := s.heap.size)
  generalize hAe : va_A (CW G q C) s.heap.size = A at hD ⊢
  have hA : ∀ q : Nat, s.heap.size ≤ q → A q := fun q h => by rw [← hAe]; exact Or.inr h
  have hS : va_S A s.heap s.heap [] := va_S.rf
  obtain ⟨hx, hb, hr, hts, hown, hml, hlocks⟩ := id bx
  have hl := lv_entry ([.ref (q 0), .int x1]) (n := 3) (Nat.le_of_ble_eq_true rfl)
  rw [lg_entry_eq]
  generalize (lg_sl ([.ref (q 0), .int x1]) ++ List.replicate (3 - (lg_sl ([.ref (q 0), .int x1])).length) Slot.unset).toArray = ls at hl ⊢
  have hl : lv_has ls 3 [(0, .ref (q 0)), (1, .int x1)] := hl
  show W p l e rmX6_choose s m _ below meth c s.heap [] 0 0 (MQi G (CW G q) A s _ below r) (F0 m 0 ls [])
  unfold pX6_choose at h
  refine lv_aload_n hx hb dX6_choose_0 rfl (lv_at hl 0 rfl) ?_
  refine lv_iload_n hx hb dX6_choose_1 rfl (lv_at hl 1 rfl) ?_
  obtain ⟨r_1, hr_1, h⟩ := tb_N h
  refine ro_v (va_runV (As := [.int x1]) (rest := []) ⟨hx, hb, hml, hown, hts⟩ (kX6_checkDecidable l G q C x1 r_1 hr_1) (cwV 1 hts gX6_choose_X6_checkDecidable rfl rfl rfl (by decide +kernel) ⟨Nat.le_of_ble_eq_true rfl, Nat.le_of_ble_eq_true rfl⟩) (roV hP hK 5 0 rfl rfl) rfl rfl hl.1 rfl (lv_room (Nat.le_of_ble_eq_true rfl)) dX6_choose_2 ⟨Nat.zero_le _, Nat.zero_le _⟩) ?_
  refine lv_iconst (v := 1) hx hb dX6_choose_5 (by decide) ?_
  refine lv_iload_n hx hb dX6_choose_6 rfl (lv_at hl 1 rfl) ?_
  refine lv_ishl hx hb dX6_choose_7 ?_
  refine lv_topi (fun v_2 ev_2 => ?_)
  have h := ltv_at h v_2 ev_2
  refine lv_istore_n (lv' := [(2, .int v_2), (0, .ref (q 0)), (1, .int x1)]) hx hb dX6_choose_8 rfl hl (by decide) rfl (fun ls hl => ?_)
  refine lv_aload_n hx hb dX6_choose_9 rfl (lv_at hl 1 rfl) ?_
  refine va_get (D := G.1) (ci := 5) (v := .ref (q 1)) (C := RX6) (T := TX6) (N := 7) hx hb hts in_wsX6_choose_X6 hown hK.1 hP 0 rfl rfl 0 (by decide) (w_mem hts 3 rfl) (fun _ h9 => h9) rfl dX6_choose_10 ?_
  refine lv_aload_n hx hb dX6_choose_13 rfl (lv_at hl 1 rfl) ?_
  refine va_get (D := G.1) (ci := 5) (v := .ref (q 2)) (C := RX6) (T := TX6) (N := 7) hx hb hts in_wsX6_choose_X6 hown hK.1 hP 0 rfl rfl 1 (by decide) (w_mem hts 4 rfl) (fun _ h9 => h9) rfl dX6_choose_14 ?_
  refine lv_iconst (v := 0) hx hb dX6_choose_17 (by decide) ?_
  refine lv_iconst (v := 0) hx hb dX6_choose_18 (by decide) ?_
  refine lv_aload_n hx hb dX6_choose_19 rfl (lv_at hl 1 rfl) ?_
  refine va_get (D := G.1) (ci := 5) (v := .int (C.1 0)) (C := RX6) (T := TX6) (N := 7) hx hb hts in_wsX6_choose_X6 hown hK.1 hP 0 rfl rfl 5 (by decide) (w_mem hts 5 rfl) (fun _ h9 => h9) rfl dX6_choose_20 ?_
  refine lv_iload_n hx hb dX6_choose_23 rfl (lv_at hl 0 rfl) ?_
  refine lv_ior hx hb dX6_choose_24 ?_
  refine lv_aload_n hx hb dX6_choose_25 rfl (lv_at hl 1 rfl) ?_
  refine va_get (D := G.1) (ci := 5) (v := .int (C.1 1)) (C := RX6) (T := TX6) (N := 7) hx hb hts in_wsX6_choose_X6 hown hK.1 hP 0 rfl rfl 6 (by decide) (w_mem hts 6 rfl) (fun _ h9 => h9) rfl dX6_choose_26 ?_
  obtain ⟨r_3, hr_3, h⟩ := bd_ex h
  refine ro_i (va_runSN (As := [.ref (q 1), .ref (q 2), .int 0, .int 0, .int ((C.1 0) ||| v_2), .int (C.1 1)]) (rest := []) ⟨hx, hb, hml, hown, hts⟩ (kX4_reaches l RU G q C 0 0 ((C.1 0) ||| v_2) (C.1 1) r_3 hr_3) ⟨va_cnB 6 hts gX6_choose_X4_reaches_n141 rfl rfl rfl (hK.2.nw 7 rfl) (w_mem hts 30 rfl) (by decide +kernel) ⟨Nat.le_of_ble_eq_true rfl, Nat.le_of_ble_eq_true rfl⟩, (w_mem hts 29 rfl), trivial⟩ (roS hP hK) rfl rfl hl.1 rfl (lv_room (Nat.le_of_ble_eq_true rfl)) dX6_choose_29 ⟨Nat.zero_le _, Nat.zero_le _⟩) ?_
  refine lv_if_ne (tgt := 45) hx hb dX6_choose_32 (by decide) (fun c_32 => ?_) (fun c_32 => ?_)
  · have h := br_F h c_32
    refine lv_aload_n hx hb dX6_choose_45 rfl (lv_at hl 1 rfl) ?_
    refine lv_dup hx hb dX6_choose_46 rfl ?_
    refine va_get (D := G.1) (ci := 5) (v := .int (C.1 0)) (C := RX6) (T := TX6) (N := 7) hx hb hts in_wsX6_choose_X6 hown hK.1 hP 0 rfl rfl 5 (by decide) (w_mem hts 5 rfl) (fun _ h9 => h9) rfl dX6_choose_47 ?_
    refine lv_iload_n hx hb dX6_choose_50 rfl (lv_at hl 0 rfl) ?_
    refine lv_ior hx hb dX6_choose_51 ?_
    refine va_put (D := G.1) (ci := 5) (v := .int ((C.1 0) ||| v_2)) (ty := .int) (C := RX6) (T := TX6) (N := 7) hx hb hts in_wsX6_choose_X6 tyX6 tyX6_ok nmX6 hown hK.1 hP hD hS 0 rfl rfl 5 (by decide) (w_mem hts 5 rfl) (fun _ h9 => h9) rfl (by decide +kernel) rfl rfl (Nat.le_of_ble_eq_true rfl) dX6_choose_52 (fun H locs hP hD hS => ?_)
    have hP : va_P G.1 vwCl (CW G q (sS C 0 ((C.1 0) ||| v_2))) H := hP
    have hD : va_D A (CW G q (sS C 0 ((C.1 0) ||| v_2))) := hD
    obtain ⟨C_4, eC_4, h⟩ := ltv_ex h
    rw [← eC_4] at hP hD
    refine lv_aload_n hx hb dX6_choose_55 rfl (lv_at hl 1 rfl) ?_
    obtain ⟨u_5, hu_5, h⟩ := bd_ex h
    refine wr_i (Wd := CW G q) (va_runV (As := []) (rest := []) ⟨hx, hb, hml, hown, hts⟩ (kX6_countUnknown l G q C_4 _ u_5 hu_5) (cwV 0 hts gX6_choose_X6_countUnknown rfl rfl rfl (by decide +kernel) ⟨Nat.le_of_ble_eq_true rfl, Nat.le_of_ble_eq_true rfl⟩) (wrV hP hD hK 5 0 rfl rfl) rfl rfl hl.1 rfl (lv_room (Nat.le_of_ble_eq_true rfl)) dX6_choose_56 ⟨Nat.zero_le _, Nat.zero_le _⟩) hD hS hA (fun _ => rfl) (fun H locs hP hD hS => ?_)
    exact MQi.end hx hb hr hlocks hP hS dX6_choose_59 rfl (nn_ h)
  · have h := br_T h c_32
    cases h

def rxX6_choose : Room := { frames := 17, cells := 1, slots := 6, locals := 434 }

set_option maxHeartbeats 4000000 in
set_option maxRecDepth 100000 in
theorem xX6_choose (l : Launch) (hl0 : l.stackTraces = false) (G : GT) (q : Nat → Nat) (C : St) (sz : Nat) (x1 : Int32) (r : Nat × St) (h : pX6_choose C x1 = some (.inl r)) : vx_Met l yX6_choose wsX6_choose rxX6_choose (va_Pc [.ref (q 0), .int x1] (xP G (CW G q C) sz)) (fun _ _ _ _ => False) (XCf G (CW G q) (va_A (CW G q C) sz) r) 1 6 (va_A (CW G q C) sz) := by
  refine vx_ofW (cc := cX6_choose) (maxL := 3) (ret := (some .int)) (by decide) rfl ?_
  intro p e s m args below meth c s₁ B hml hex hv
  obtain ⟨rfl, ⟨hsz, hP, hK, hD0⟩, hE⟩ := hv
  have bx := bx_of B hml
  subst hsz
  have hD := hD0.self (sz := s.heap.size)
  generalize hAe : va_A (CW G q C) s.heap.size = A at hD hE ⊢
  have hA : ∀ q : Nat, s.heap.size ≤ q → A q := fun q h => by rw [← hAe]; exact Or.inr h
  have hS : va_S A s.heap s.heap [] := va_S.rf
  obtain ⟨hx, hb, hr, hts, hown, hml, hlocks⟩ := id bx
  have hl := lv_entry ([.ref (q 0), .int x1]) (n := 3) (Nat.le_of_ble_eq_true rfl)
  rw [lg_entry_eq]
  generalize (lg_sl ([.ref (q 0), .int x1]) ++ List.replicate (3 - (lg_sl ([.ref (q 0), .int x1])).length) Slot.unset).toArray = ls at hl ⊢
  have hl : lv_has ls 3 [(0, .ref (q 0)), (1, .int x1)] := hl
  show W p l e rxX6_choose s m _ below meth c s.heap [] 0 0 (MQx G (CW G q) A s _ below r) (F0 m 0 ls [])
  unfold pX6_choose at h
  refine lv_aload_n hx hb dX6_choose_0 rfl (lv_at hl 0 rfl) ?_
  refine lv_iload_n hx hb dX6_choose_1 rfl (lv_at hl 1 rfl) ?_
  rcases tb_X h with ⟨er_1, hr_1, h⟩ | ⟨r_1, hr_1, h⟩
  · exact x_prop (Wd := CW G q) (vx_runV (As := [.int x1]) (rest := []) ⟨hx, hb, hml, hown, hts⟩ (xX6_checkDecidable l hl0 G q C _ x1 er_1 hr_1) (cwV 1 hts gX6_choose_X6_checkDecidable rfl rfl rfl (by decide +kernel) ⟨Nat.le_of_ble_eq_true rfl, Nat.le_of_ble_eq_true rfl⟩) (xV hP hD hS hK hA hE 5 0 rfl rfl) rfl rfl hl.1 rfl (lv_room (Nat.le_of_ble_eq_true rfl)) dX6_choose_2 ⟨Nat.le_of_ble_eq_true rfl, Nat.le_of_ble_eq_true rfl⟩) hD hS hA (fun _ => rfl) hex hlocks h
  refine ro_v (va_runV (As := [.int x1]) (rest := []) ⟨hx, hb, hml, hown, hts⟩ (kX6_checkDecidable l G q C x1 r_1 hr_1) (cwV 1 hts gX6_choose_X6_checkDecidable rfl rfl rfl (by decide +kernel) ⟨Nat.le_of_ble_eq_true rfl, Nat.le_of_ble_eq_true rfl⟩) (roV hP hK 5 0 rfl rfl) rfl rfl hl.1 rfl (lv_room (Nat.le_of_ble_eq_true rfl)) dX6_choose_2 ⟨Nat.zero_le _, Nat.zero_le _⟩) ?_
  refine lv_iconst (v := 1) hx hb dX6_choose_5 (by decide) ?_
  refine lv_iload_n hx hb dX6_choose_6 rfl (lv_at hl 1 rfl) ?_
  refine lv_ishl hx hb dX6_choose_7 ?_
  refine lv_topi (fun v_2 ev_2 => ?_)
  have h := ltv_at h v_2 ev_2
  refine lv_istore_n (lv' := [(2, .int v_2), (0, .ref (q 0)), (1, .int x1)]) hx hb dX6_choose_8 rfl hl (by decide) rfl (fun ls hl => ?_)
  refine lv_aload_n hx hb dX6_choose_9 rfl (lv_at hl 1 rfl) ?_
  refine va_get (D := G.1) (ci := 5) (v := .ref (q 1)) (C := RX6) (T := TX6) (N := 7) hx hb hts in_wsX6_choose_X6 hown hK.1 hP 0 rfl rfl 0 (by decide) (w_mem hts 3 rfl) (fun _ h9 => h9) rfl dX6_choose_10 ?_
  refine lv_aload_n hx hb dX6_choose_13 rfl (lv_at hl 1 rfl) ?_
  refine va_get (D := G.1) (ci := 5) (v := .ref (q 2)) (C := RX6) (T := TX6) (N := 7) hx hb hts in_wsX6_choose_X6 hown hK.1 hP 0 rfl rfl 1 (by decide) (w_mem hts 4 rfl) (fun _ h9 => h9) rfl dX6_choose_14 ?_
  refine lv_iconst (v := 0) hx hb dX6_choose_17 (by decide) ?_
  refine lv_iconst (v := 0) hx hb dX6_choose_18 (by decide) ?_
  refine lv_aload_n hx hb dX6_choose_19 rfl (lv_at hl 1 rfl) ?_
  refine va_get (D := G.1) (ci := 5) (v := .int (C.1 0)) (C := RX6) (T := TX6) (N := 7) hx hb hts in_wsX6_choose_X6 hown hK.1 hP 0 rfl rfl 5 (by decide) (w_mem hts 5 rfl) (fun _ h9 => h9) rfl dX6_choose_20 ?_
  refine lv_iload_n hx hb dX6_choose_23 rfl (lv_at hl 0 rfl) ?_
  refine lv_ior hx hb dX6_choose_24 ?_
  refine lv_aload_n hx hb dX6_choose_25 rfl (lv_at hl 1 rfl) ?_
  refine va_get (D := G.1) (ci := 5) (v := .int (C.1 1)) (C := RX6) (T := TX6) (N := 7) hx hb hts in_wsX6_choose_X6 hown hK.1 hP 0 rfl rfl 6 (by decide) (w_mem hts 6 rfl) (fun _ h9 => h9) rfl dX6_choose_26 ?_
  obtain ⟨r_3, hr_3, h⟩ := bd_ex h
  refine ro_i (va_runSN (As := [.ref (q 1), .ref (q 2), .int 0, .int 0, .int ((C.1 0) ||| v_2), .int (C.1 1)]) (rest := []) ⟨hx, hb, hml, hown, hts⟩ (kX4_reaches l RU G q C 0 0 ((C.1 0) ||| v_2) (C.1 1) r_3 hr_3) ⟨va_cnB 6 hts gX6_choose_X4_reaches_n141 rfl rfl rfl (hK.2.nw 7 rfl) (w_mem hts 30 rfl) (by decide +kernel) ⟨Nat.le_of_ble_eq_true rfl, Nat.le_of_ble_eq_true rfl⟩, (w_mem hts 29 rfl), trivial⟩ (roS hP hK) rfl rfl hl.1 rfl (lv_room (Nat.le_of_ble_eq_true rfl)) dX6_choose_29 ⟨Nat.zero_le _, Nat.zero_le _⟩) ?_
  refine lv_if_ne (tgt := 45) hx hb dX6_choose_32 (by decide) (fun c_32 => ?_) (fun c_32 => ?_)
  · have h := br_F h c_32
    refine lv_aload_n hx hb dX6_choose_45 rfl (lv_at hl 1 rfl) ?_
    refine lv_dup hx hb dX6_choose_46 rfl ?_
    refine va_get (D := G.1) (ci := 5) (v := .int (C.1 0)) (C := RX6) (T := TX6) (N := 7) hx hb hts in_wsX6_choose_X6 hown hK.1 hP 0 rfl rfl 5 (by decide) (w_mem hts 5 rfl) (fun _ h9 => h9) rfl dX6_choose_47 ?_
    refine lv_iload_n hx hb dX6_choose_50 rfl (lv_at hl 0 rfl) ?_
    refine lv_ior hx hb dX6_choose_51 ?_
    refine va_put (D := G.1) (ci := 5) (v := .int ((C.1 0) ||| v_2)) (ty := .int) (C := RX6) (T := TX6) (N := 7) hx hb hts in_wsX6_choose_X6 tyX6 tyX6_ok nmX6 hown hK.1 hP hD hS 0 rfl rfl 5 (by decide) (w_mem hts 5 rfl) (fun _ h9 => h9) rfl (by decide +kernel) rfl rfl (Nat.le_of_ble_eq_true rfl) dX6_choose_52 (fun H locs hP hD hS => ?_)
    have hP : va_P G.1 vwCl (CW G q (sS C 0 ((C.1 0) ||| v_2))) H := hP
    have hD : va_D A (CW G q (sS C 0 ((C.1 0) ||| v_2))) := hD
    obtain ⟨C_4, eC_4, h⟩ := ltv_ex h
    rw [← eC_4] at hP hD
    refine lv_aload_n hx hb dX6_choose_55 rfl (lv_at hl 1 rfl) ?_
    obtain ⟨u_5, hu_5, h⟩ := bd_ex h
    refine wr_i (Wd := CW G q) (va_runV (As := []) (rest := []) ⟨hx, hb, hml, hown, hts⟩ (kX6_countUnknown l G q C_4 _ u_5 hu_5) (cwV 0 hts gX6_choose_X6_countUnknown rfl rfl rfl (by decide +kernel) ⟨Nat.le_of_ble_eq_true rfl, Nat.le_of_ble_eq_true rfl⟩) (wrV hP hD hK 5 0 rfl rfl) rfl rfl hl.1 rfl (lv_room (Nat.le_of_ble_eq_true rfl)) dX6_choose_56 ⟨Nat.zero_le _, Nat.zero_le _⟩) hD hS hA (fun _ => rfl) (fun H locs hP hD hS => ?_)
    cases h
  · have h := br_T h c_32
    exact x_throwS (Wd := CW G q) (C := C) (k := 4) (cls := "java/lang/UnsupportedOperationException") (text := "there would be no completion") hx hb hl0 hts hown hml hlocks hex hK hE hP hS hl (by decide +kernel) (w_mem hts 1 rfl) (w_mem hts 2 rfl) (List.mem_of_getElem? (i := 2) rfl) (fun w h => List.mem_cons_of_mem _ (List.mem_append_left _ (List.mem_append_left _ (List.mem_append_left _ (List.mem_append_right _ h))))) xB_86 xG_86_82 dX6_choose_35 dX6_choose_38 dX6_choose_39 dX6_choose_41 dX6_choose_44 ⟨Nat.le_of_ble_eq_true rfl, Nat.le_of_ble_eq_true rfl, Nat.le_of_ble_eq_true rfl, Nat.le_of_ble_eq_true rfl⟩ ((xl_ h).symm) rfl

def rmX6_refuse : Room := { frames := 17, cells := 0, slots := 0, locals := 434 }

theorem in_wsX6_refuse_X6 : ∀ w ∈ u_ws RX6 TX6 7, w ∈ wsX6_refuse := by decide +kernel

set_option maxHeartbeats 4000000 in
set_option maxRecDepth 100000 in
theorem kX6_refuse (l : Launch) (G : GT) (q : Nat → Nat) (C : St) (sz : Nat) (x1 : Int32) (r : Int32 × St) (h : pX6_refuse C x1 = some (.inr r)) : Met l yX6_refuse wsX6_refuse rmX6_refuse (va_Pc [.ref (q 0), .int x1] (wrP G (CW G q C) sz)) (va_Qi (fun v u => (v, u) = r) (fun u t => va_P G.1 vwCl (CW G q u) t.heap) (va_A (CW G q C) sz)) 0 0 (va_A (CW G q C) sz) := by
  refine Met.ofW (cc := cX6_refuse) (maxL := 3) (ret := (some .int)) (by decide) rfl ?_
  intro p e s m args below meth c s₁ B hml hv
  obtain ⟨rfl, hsz, hP, hK, hD0⟩ := hv
  have bx := bx_of B hml
  subst hsz
  have hD := hD0.self (sz := s.heap.size)
  generalize hAe : va_A (CW G q C) s.heap.size = A at hD ⊢
  have hA : ∀ q : Nat, s.heap.size ≤ q → A q := fun q h => by rw [← hAe]; exact Or.inr h
  have hS : va_S A s.heap s.heap [] := va_S.rf
  obtain ⟨hx, hb, hr, hts, hown, hml, hlocks⟩ := id bx
  have hl := lv_entry ([.ref (q 0), .int x1]) (n := 3) (Nat.le_of_ble_eq_true rfl)
  rw [lg_entry_eq]
  generalize (lg_sl ([.ref (q 0), .int x1]) ++ List.replicate (3 - (lg_sl ([.ref (q 0), .int x1])).length) Slot.unset).toArray = ls at hl ⊢
  have hl : lv_has ls 3 [(0, .ref (q 0)), (1, .int x1)] := hl
  show W p l e rmX6_refuse s m _ below meth c s.heap [] 0 0 (MQi G (CW G q) A s _ below r) (F0 m 0 ls [])
  unfold pX6_refuse at h
  refine lv_aload_n hx hb dX6_refuse_0 rfl (lv_at hl 0 rfl) ?_
  refine lv_iload_n hx hb dX6_refuse_1 rfl (lv_at hl 1 rfl) ?_
  obtain ⟨r_1, hr_1, h⟩ := tb_N h
  refine ro_v (va_runV (As := [.int x1]) (rest := []) ⟨hx, hb, hml, hown, hts⟩ (kX6_checkDecidable l G q C x1 r_1 hr_1) (cwV 1 hts gX6_refuse_X6_checkDecidable rfl rfl rfl (by decide +kernel) ⟨Nat.le_of_ble_eq_true rfl, Nat.le_of_ble_eq_true rfl⟩) (roV hP hK 5 0 rfl rfl) rfl rfl hl.1 rfl (lv_room (Nat.le_of_ble_eq_true rfl)) dX6_refuse_2 ⟨Nat.zero_le _, Nat.zero_le _⟩) ?_
  refine lv_iconst (v := 1) hx hb dX6_refuse_5 (by decide) ?_
  refine lv_iload_n hx hb dX6_refuse_6 rfl (lv_at hl 1 rfl) ?_
  refine lv_ishl hx hb dX6_refuse_7 ?_
  refine lv_topi (fun v_2 ev_2 => ?_)
  have h := ltv_at h v_2 ev_2
  refine lv_istore_n (lv' := [(2, .int v_2), (0, .ref (q 0)), (1, .int x1)]) hx hb dX6_refuse_8 rfl hl (by decide) rfl (fun ls hl => ?_)
  refine lv_aload_n hx hb dX6_refuse_9 rfl (lv_at hl 1 rfl) ?_
  refine va_get (D := G.1) (ci := 5) (v := .ref (q 1)) (C := RX6) (T := TX6) (N := 7) hx hb hts in_wsX6_refuse_X6 hown hK.1 hP 0 rfl rfl 0 (by decide) (w_mem hts 3 rfl) (fun _ h9 => h9) rfl dX6_refuse_10 ?_
  refine lv_aload_n hx hb dX6_refuse_13 rfl (lv_at hl 1 rfl) ?_
  refine va_get (D := G.1) (ci := 5) (v := .ref (q 2)) (C := RX6) (T := TX6) (N := 7) hx hb hts in_wsX6_refuse_X6 hown hK.1 hP 0 rfl rfl 1 (by decide) (w_mem hts 4 rfl) (fun _ h9 => h9) rfl dX6_refuse_14 ?_
  refine lv_iconst (v := 0) hx hb dX6_refuse_17 (by decide) ?_
  refine lv_iconst (v := 0) hx hb dX6_refuse_18 (by decide) ?_
  refine lv_aload_n hx hb dX6_refuse_19 rfl (lv_at hl 1 rfl) ?_
  refine va_get (D := G.1) (ci := 5) (v := .int (C.1 0)) (C := RX6) (T := TX6) (N := 7) hx hb hts in_wsX6_refuse_X6 hown hK.1 hP 0 rfl rfl 5 (by decide) (w_mem hts 5 rfl) (fun _ h9 => h9) rfl dX6_refuse_20 ?_
  refine lv_aload_n hx hb dX6_refuse_23 rfl (lv_at hl 1 rfl) ?_
  refine va_get (D := G.1) (ci := 5) (v := .int (C.1 1)) (C := RX6) (T := TX6) (N := 7) hx hb hts in_wsX6_refuse_X6 hown hK.1 hP 0 rfl rfl 6 (by decide) (w_mem hts 6 rfl) (fun _ h9 => h9) rfl dX6_refuse_24 ?_
  refine lv_iload_n hx hb dX6_refuse_27 rfl (lv_at hl 0 rfl) ?_
  refine lv_ior hx hb dX6_refuse_28 ?_
  obtain ⟨r_3, hr_3, h⟩ := bd_ex h
  refine ro_i (va_runSN (As := [.ref (q 1), .ref (q 2), .int 0, .int 0, .int (C.1 0), .int ((C.1 1) ||| v_2)]) (rest := []) ⟨hx, hb, hml, hown, hts⟩ (kX4_reaches l RU G q C 0 0 (C.1 0) ((C.1 1) ||| v_2) r_3 hr_3) ⟨va_cnB 6 hts gX6_refuse_X4_reaches_n141 rfl rfl rfl (hK.2.nw 7 rfl) (w_mem hts 30 rfl) (by decide +kernel) ⟨Nat.le_of_ble_eq_true rfl, Nat.le_of_ble_eq_true rfl⟩, (w_mem hts 29 rfl), trivial⟩ (roS hP hK) rfl rfl hl.1 rfl (lv_room (Nat.le_of_ble_eq_true rfl)) dX6_refuse_29 ⟨Nat.zero_le _, Nat.zero_le _⟩) ?_
  refine lv_if_ne (tgt := 45) hx hb dX6_refuse_32 (by decide) (fun c_32 => ?_) (fun c_32 => ?_)
  · have h := br_F h c_32
    refine lv_aload_n hx hb dX6_refuse_45 rfl (lv_at hl 1 rfl) ?_
    refine lv_dup hx hb dX6_refuse_46 rfl ?_
    refine va_get (D := G.1) (ci := 5) (v := .int (C.1 1)) (C := RX6) (T := TX6) (N := 7) hx hb hts in_wsX6_refuse_X6 hown hK.1 hP 0 rfl rfl 6 (by decide) (w_mem hts 6 rfl) (fun _ h9 => h9) rfl dX6_refuse_47 ?_
    refine lv_iload_n hx hb dX6_refuse_50 rfl (lv_at hl 0 rfl) ?_
    refine lv_ior hx hb dX6_refuse_51 ?_
    refine va_put (D := G.1) (ci := 5) (v := .int ((C.1 1) ||| v_2)) (ty := .int) (C := RX6) (T := TX6) (N := 7) hx hb hts in_wsX6_refuse_X6 tyX6 tyX6_ok nmX6 hown hK.1 hP hD hS 0 rfl rfl 6 (by decide) (w_mem hts 6 rfl) (fun _ h9 => h9) rfl (by decide +kernel) rfl rfl (Nat.le_of_ble_eq_true rfl) dX6_refuse_52 (fun H locs hP hD hS => ?_)
    have hP : va_P G.1 vwCl (CW G q (sS C 1 ((C.1 1) ||| v_2))) H := hP
    have hD : va_D A (CW G q (sS C 1 ((C.1 1) ||| v_2))) := hD
    obtain ⟨C_4, eC_4, h⟩ := ltv_ex h
    rw [← eC_4] at hP hD
    refine lv_aload_n hx hb dX6_refuse_55 rfl (lv_at hl 1 rfl) ?_
    obtain ⟨u_5, hu_5, h⟩ := bd_ex h
    refine wr_i (Wd := CW G q) (va_runV (As := []) (rest := []) ⟨hx, hb, hml, hown, hts⟩ (kX6_countUnknown l G q C_4 _ u_5 hu_5) (cwV 0 hts gX6_refuse_X6_countUnknown rfl rfl rfl (by decide +kernel) ⟨Nat.le_of_ble_eq_true rfl, Nat.le_of_ble_eq_true rfl⟩) (wrV hP hD hK 5 0 rfl rfl) rfl rfl hl.1 rfl (lv_room (Nat.le_of_ble_eq_true rfl)) dX6_refuse_56 ⟨Nat.zero_le _, Nat.zero_le _⟩) hD hS hA (fun _ => rfl) (fun H locs hP hD hS => ?_)
    exact MQi.end hx hb hr hlocks hP hS dX6_refuse_59 rfl (nn_ h)
  · have h := br_T h c_32
    cases h

def rxX6_refuse : Room := { frames := 17, cells := 1, slots := 6, locals := 434 }

set_option maxHeartbeats 4000000 in
set_option maxRecDepth 100000 in
theorem xX6_refuse (l : Launch) (hl0 : l.stackTraces = false) (G : GT) (q : Nat → Nat) (C : St) (sz : Nat) (x1 : Int32) (r : Nat × St) (h : pX6_refuse C x1 = some (.inl r)) : vx_Met l yX6_refuse wsX6_refuse rxX6_refuse (va_Pc [.ref (q 0), .int x1] (xP G (CW G q C) sz)) (fun _ _ _ _ => False) (XCf G (CW G q) (va_A (CW G q C) sz) r) 1 6 (va_A (CW G q C) sz) := by
  refine vx_ofW (cc := cX6_refuse) (maxL := 3) (ret := (some .int)) (by decide) rfl ?_
  intro p e s m args below meth c s₁ B hml hex hv
  obtain ⟨rfl, ⟨hsz, hP, hK, hD0⟩, hE⟩ := hv
  have bx := bx_of B hml
  subst hsz
  have hD := hD0.self (sz := s.heap.size)
  generalize hAe : va_A (CW G q C) s.heap.size = A at hD hE ⊢
  have hA : ∀ q : Nat, s.heap.size ≤ q → A q := fun q h => by rw [← hAe]; exact Or.inr h
  have hS : va_S A s.heap s.heap [] := va_S.rf
  obtain ⟨hx, hb, hr, hts, hown, hml, hlocks⟩ := id bx
  have hl := lv_entry ([.ref (q 0), .int x1]) (n := 3) (Nat.le_of_ble_eq_true rfl)
  rw [lg_entry_eq]
  generalize (lg_sl ([.ref (q 0), .int x1]) ++ List.replicate (3 - (lg_sl ([.ref (q 0), .int x1])).length) Slot.unset).toArray = ls at hl ⊢
  have hl : lv_has ls 3 [(0, .ref (q 0)), (1, .int x1)] := hl
  show W p l e rxX6_refuse s m _ below meth c s.heap [] 0 0 (MQx G (CW G q) A s _ below r) (F0 m 0 ls [])
  unfold pX6_refuse at h
  refine lv_aload_n hx hb dX6_refuse_0 rfl (lv_at hl 0 rfl) ?_
  refine lv_iload_n hx hb dX6_refuse_1 rfl (lv_at hl 1 rfl) ?_
  rcases tb_X h with ⟨er_1, hr_1, h⟩ | ⟨r_1, hr_1, h⟩
  · exact x_prop (Wd := CW G q) (vx_runV (As := [.int x1]) (rest := []) ⟨hx, hb, hml, hown, hts⟩ (xX6_checkDecidable l hl0 G q C _ x1 er_1 hr_1) (cwV 1 hts gX6_refuse_X6_checkDecidable rfl rfl rfl (by decide +kernel) ⟨Nat.le_of_ble_eq_true rfl, Nat.le_of_ble_eq_true rfl⟩) (xV hP hD hS hK hA hE 5 0 rfl rfl) rfl rfl hl.1 rfl (lv_room (Nat.le_of_ble_eq_true rfl)) dX6_refuse_2 ⟨Nat.le_of_ble_eq_true rfl, Nat.le_of_ble_eq_true rfl⟩) hD hS hA (fun _ => rfl) hex hlocks h
  refine ro_v (va_runV (As := [.int x1]) (rest := []) ⟨hx, hb, hml, hown, hts⟩ (kX6_checkDecidable l G q C x1 r_1 hr_1) (cwV 1 hts gX6_refuse_X6_checkDecidable rfl rfl rfl (by decide +kernel) ⟨Nat.le_of_ble_eq_true rfl, Nat.le_of_ble_eq_true rfl⟩) (roV hP hK 5 0 rfl rfl) rfl rfl hl.1 rfl (lv_room (Nat.le_of_ble_eq_true rfl)) dX6_refuse_2 ⟨Nat.zero_le _, Nat.zero_le _⟩) ?_
  refine lv_iconst (v := 1) hx hb dX6_refuse_5 (by decide) ?_
  refine lv_iload_n hx hb dX6_refuse_6 rfl (lv_at hl 1 rfl) ?_
  refine lv_ishl hx hb dX6_refuse_7 ?_
  refine lv_topi (fun v_2 ev_2 => ?_)
  have h := ltv_at h v_2 ev_2
  refine lv_istore_n (lv' := [(2, .int v_2), (0, .ref (q 0)), (1, .int x1)]) hx hb dX6_refuse_8 rfl hl (by decide) rfl (fun ls hl => ?_)
  refine lv_aload_n hx hb dX6_refuse_9 rfl (lv_at hl 1 rfl) ?_
  refine va_get (D := G.1) (ci := 5) (v := .ref (q 1)) (C := RX6) (T := TX6) (N := 7) hx hb hts in_wsX6_refuse_X6 hown hK.1 hP 0 rfl rfl 0 (by decide) (w_mem hts 3 rfl) (fun _ h9 => h9) rfl dX6_refuse_10 ?_
  refine lv_aload_n hx hb dX6_refuse_13 rfl (lv_at hl 1 rfl) ?_
  refine va_get (D := G.1) (ci := 5) (v := .ref (q 2)) (C := RX6) (T := TX6) (N := 7) hx hb hts in_wsX6_refuse_X6 hown hK.1 hP 0 rfl rfl 1 (by decide) (w_mem hts 4 rfl) (fun _ h9 => h9) rfl dX6_refuse_14 ?_
  refine lv_iconst (v := 0) hx hb dX6_refuse_17 (by decide) ?_
  refine lv_iconst (v := 0) hx hb dX6_refuse_18 (by decide) ?_
  refine lv_aload_n hx hb dX6_refuse_19 rfl (lv_at hl 1 rfl) ?_
  refine va_get (D := G.1) (ci := 5) (v := .int (C.1 0)) (C := RX6) (T := TX6) (N := 7) hx hb hts in_wsX6_refuse_X6 hown hK.1 hP 0 rfl rfl 5 (by decide) (w_mem hts 5 rfl) (fun _ h9 => h9) rfl dX6_refuse_20 ?_
  refine lv_aload_n hx hb dX6_refuse_23 rfl (lv_at hl 1 rfl) ?_
  refine va_get (D := G.1) (ci := 5) (v := .int (C.1 1)) (C := RX6) (T := TX6) (N := 7) hx hb hts in_wsX6_refuse_X6 hown hK.1 hP 0 rfl rfl 6 (by decide) (w_mem hts 6 rfl) (fun _ h9 => h9) rfl dX6_refuse_24 ?_
  refine lv_iload_n hx hb dX6_refuse_27 rfl (lv_at hl 0 rfl) ?_
  refine lv_ior hx hb dX6_refuse_28 ?_
  obtain ⟨r_3, hr_3, h⟩ := bd_ex h
  refine ro_i (va_runSN (As := [.ref (q 1), .ref (q 2), .int 0, .int 0, .int (C.1 0), .int ((C.1 1) ||| v_2)]) (rest := []) ⟨hx, hb, hml, hown, hts⟩ (kX4_reaches l RU G q C 0 0 (C.1 0) ((C.1 1) ||| v_2) r_3 hr_3) ⟨va_cnB 6 hts gX6_refuse_X4_reaches_n141 rfl rfl rfl (hK.2.nw 7 rfl) (w_mem hts 30 rfl) (by decide +kernel) ⟨Nat.le_of_ble_eq_true rfl, Nat.le_of_ble_eq_true rfl⟩, (w_mem hts 29 rfl), trivial⟩ (roS hP hK) rfl rfl hl.1 rfl (lv_room (Nat.le_of_ble_eq_true rfl)) dX6_refuse_29 ⟨Nat.zero_le _, Nat.zero_le _⟩) ?_
  refine lv_if_ne (tgt := 45) hx hb dX6_refuse_32 (by decide) (fun c_32 => ?_) (fun c_32 => ?_)
  · have h := br_F h c_32
    refine lv_aload_n hx hb dX6_refuse_45 rfl (lv_at hl 1 rfl) ?_
    refine lv_dup hx hb dX6_refuse_46 rfl ?_
    refine va_get (D := G.1) (ci := 5) (v := .int (C.1 1)) (C := RX6) (T := TX6) (N := 7) hx hb hts in_wsX6_refuse_X6 hown hK.1 hP 0 rfl rfl 6 (by decide) (w_mem hts 6 rfl) (fun _ h9 => h9) rfl dX6_refuse_47 ?_
    refine lv_iload_n hx hb dX6_refuse_50 rfl (lv_at hl 0 rfl) ?_
    refine lv_ior hx hb dX6_refuse_51 ?_
    refine va_put (D := G.1) (ci := 5) (v := .int ((C.1 1) ||| v_2)) (ty := .int) (C := RX6) (T := TX6) (N := 7) hx hb hts in_wsX6_refuse_X6 tyX6 tyX6_ok nmX6 hown hK.1 hP hD hS 0 rfl rfl 6 (by decide) (w_mem hts 6 rfl) (fun _ h9 => h9) rfl (by decide +kernel) rfl rfl (Nat.le_of_ble_eq_true rfl) dX6_refuse_52 (fun H locs hP hD hS => ?_)
    have hP : va_P G.1 vwCl (CW G q (sS C 1 ((C.1 1) ||| v_2))) H := hP
    have hD : va_D A (CW G q (sS C 1 ((C.1 1) ||| v_2))) := hD
    obtain ⟨C_4, eC_4, h⟩ := ltv_ex h
    rw [← eC_4] at hP hD
    refine lv_aload_n hx hb dX6_refuse_55 rfl (lv_at hl 1 rfl) ?_
    obtain ⟨u_5, hu_5, h⟩ := bd_ex h
    refine wr_i (Wd := CW G q) (va_runV (As := []) (rest := []) ⟨hx, hb, hml, hown, hts⟩ (kX6_countUnknown l G q C_4 _ u_5 hu_5) (cwV 0 hts gX6_refuse_X6_countUnknown rfl rfl rfl (by decide +kernel) ⟨Nat.le_of_ble_eq_true rfl, Nat.le_of_ble_eq_true rfl⟩) (wrV hP hD hK 5 0 rfl rfl) rfl rfl hl.1 rfl (lv_room (Nat.le_of_ble_eq_true rfl)) dX6_refuse_56 ⟨Nat.zero_le _, Nat.zero_le _⟩) hD hS hA (fun _ => rfl) (fun H locs hP hD hS => ?_)
    cases h
  · have h := br_T h c_32
    exact x_throwS (Wd := CW G q) (C := C) (k := 4) (cls := "java/lang/UnsupportedOperationException") (text := "there would be no completion") hx hb hl0 hts hown hml hlocks hex hK hE hP hS hl (by decide +kernel) (w_mem hts 1 rfl) (w_mem hts 2 rfl) (List.mem_of_getElem? (i := 2) rfl) (fun w h => List.mem_cons_of_mem _ (List.mem_append_left _ (List.mem_append_left _ (List.mem_append_left _ (List.mem_append_right _ h))))) xB_86 xG_86_82 dX6_refuse_35 dX6_refuse_38 dX6_refuse_39 dX6_refuse_41 dX6_refuse_44 ⟨Nat.le_of_ble_eq_true rfl, Nat.le_of_ble_eq_true rfl, Nat.le_of_ble_eq_true rfl, Nat.le_of_ble_eq_true rfl⟩ ((xl_ h).symm) rfl

def rmX6_retract : Room := { frames := 1, cells := 0, slots := 0, locals := 21 }

theorem in_wsX6_retract_X6 : ∀ w ∈ u_ws RX6 TX6 7, w ∈ wsX6_retract := by decide +kernel

set_option maxHeartbeats 4000000 in
set_option maxRecDepth 100000 in
theorem wX6_retract_49 {p : Program} {l : Launch} {e : Env} {s : State} {m : MethodId} {args : Array Value} {below : List Frame} {meth : Method} {c : Code} {G : GT} {q : Nat → Nat} {A : Nat → Prop} {out : Int32 × St} (bx : BX p RX6 wsX6_retract cX6_retract 3 (some .char) s m args meth c) (hA : ∀ q : Nat, s.heap.size ≤ q → A q) (hK : CK G s) (C : St) (x1 : Int32) (t0 : Int32) (h : pX6_retract_49 C x1 t0 = some (.inr out)) {H : Heap} {locs : List Loc} (hP : va_P G.1 vwCl (CW G q C) H) (hD : va_D A (CW G q C)) (hS : va_S A s.heap H locs) (ls : Array Slot) (hl : lv_has ls 3 [(0, .ref (q 0)), (1, .int x1)]) : W p l e rmX6_retract s m args below meth c H locs 0 0 (MQi G (CW G q) A s args below out) (F0 m 49 ls [.int t0]) := by
  obtain ⟨hx, hb, hr, hts, hown, hml, hlocks⟩ := id bx
  unfold pX6_retract_49 at h
  refine lv_istore_n (lv' := [(2, .int t0), (0, .ref (q 0)), (1, .int x1)]) hx hb dX6_retract_49 rfl hl (by decide) rfl (fun ls hl => ?_)
  refine lv_aload_n hx hb dX6_retract_50 rfl (lv_at hl 1 rfl) ?_
  refine lv_iconst (v := 1) hx hb dX6_retract_51 (by decide) ?_
  refine lv_iload_n hx hb dX6_retract_52 rfl (lv_at hl 2 rfl) ?_
  refine lv_ishl hx hb dX6_retract_53 ?_
  obtain ⟨u_4, hu_4, h⟩ := bd_ex h
  refine wr_v (Wd := CW G q) (va_runV (As := [.int ((1 : Int32) <<< (x1 &&& 31))]) (rest := []) ⟨hx, hb, hml, hown, hts⟩ (kX6_takeBack l G q C _ ((1 : Int32) <<< (x1 &&& 31)) u_4 hu_4) (cwV 1 hts gX6_retract_X6_takeBack rfl rfl rfl (by decide +kernel) ⟨Nat.le_of_ble_eq_true rfl, Nat.le_of_ble_eq_true rfl⟩) (wrV hP hD hK 5 0 rfl rfl) rfl rfl hl.1 rfl (lv_room (Nat.le_of_ble_eq_true rfl)) dX6_retract_54 ⟨Nat.zero_le _, Nat.zero_le _⟩) hD hS hA (fun _ => rfl) (fun H locs hP hD hS => ?_)
  refine lv_iload_n hx hb dX6_retract_57 rfl (lv_at hl 0 rfl) ?_
  obtain ⟨g58, h⟩ := gd_ex h
  exact MQi.end hx hb hr hlocks hP hS dX6_retract_58 (okC_n g58) (nn_ h)

set_option maxHeartbeats 4000000 in
set_option maxRecDepth 100000 in
theorem kX6_retract (l : Launch) (G : GT) (q : Nat → Nat) (C : St) (sz : Nat) (x1 : Int32) (r : Int32 × St) (h : pX6_retract C x1 = some (.inr r)) : Met l yX6_retract wsX6_retract rmX6_retract (va_Pc [.ref (q 0), .int x1] (wrP G (CW G q C) sz)) (va_Qi (fun v u => (v, u) = r) (fun u t => va_P G.1 vwCl (CW G q u) t.heap) (va_A (CW G q C) sz)) 0 0 (va_A (CW G q C) sz) := by
  refine Met.ofW (cc := cX6_retract) (maxL := 3) (ret := (some .char)) (by decide) rfl ?_
  intro p e s m args below meth c s₁ B hml hv
  obtain ⟨rfl, hsz, hP, hK, hD0⟩ := hv
  have bx := bx_of B hml
  subst hsz
  have hD := hD0.self (sz := s.heap.size)
  generalize hAe : va_A (CW G q C) s.heap.size = A at hD ⊢
  have hA : ∀ q : Nat, s.heap.size ≤ q → A q := fun q h => by rw [← hAe]; exact Or.inr h
  have hS : va_S A s.heap s.heap [] := va_S.rf
  obtain ⟨hx, hb, hr, hts, hown, hml, hlocks⟩ := id bx
  have hl := lv_entry ([.ref (q 0), .int x1]) (n := 3) (Nat.le_of_ble_eq_true rfl)
  rw [lg_entry_eq]
  generalize (lg_sl ([.ref (q 0), .int x1]) ++ List.replicate (3 - (lg_sl ([.ref (q 0), .int x1])).length) Slot.unset).toArray = ls at hl ⊢
  have hl : lv_has ls 3 [(0, .ref (q 0)), (1, .int x1)] := hl
  show W p l e rmX6_retract s m _ below meth c s.heap [] 0 0 (MQi G (CW G q) A s _ below r) (F0 m 0 ls [])
  unfold pX6_retract at h
  refine lv_aload_n hx hb dX6_retract_0 rfl (lv_at hl 0 rfl) ?_
  refine lv_iload_n hx hb dX6_retract_1 rfl (lv_at hl 1 rfl) ?_
  obtain ⟨r_1, hr_1, h⟩ := tb_N h
  refine ro_v (va_runV (As := [.int x1]) (rest := []) ⟨hx, hb, hml, hown, hts⟩ (kX6_checkFeature l G q C x1 r_1 hr_1) (cwV 1 hts gX6_retract_X6_checkFeature rfl rfl rfl (by decide +kernel) ⟨Nat.le_of_ble_eq_true rfl, Nat.le_of_ble_eq_true rfl⟩) (roV hP hK 5 0 rfl rfl) rfl rfl hl.1 rfl (lv_room (Nat.le_of_ble_eq_true rfl)) dX6_retract_2 ⟨Nat.zero_le _, Nat.zero_le _⟩) ?_
  refine lv_aload_n hx hb dX6_retract_5 rfl (lv_at hl 0 rfl) ?_
  refine va_get (D := G.1) (ci := 5) (v := .int (C.1 0)) (C := RX6) (T := TX6) (N := 7) hx hb hts in_wsX6_retract_X6 hown hK.1 hP 0 rfl rfl 5 (by decide) (w_mem hts 3 rfl) (fun _ h9 => h9) rfl dX6_retract_6 ?_
  refine lv_aload_n hx hb dX6_retract_9 rfl (lv_at hl 0 rfl) ?_
  refine va_get (D := G.1) (ci := 5) (v := .int (C.1 1)) (C := RX6) (T := TX6) (N := 7) hx hb hts in_wsX6_retract_X6 hown hK.1 hP 0 rfl rfl 6 (by decide) (w_mem hts 4 rfl) (fun _ h9 => h9) rfl dX6_retract_10 ?_
  refine lv_ior hx hb dX6_retract_13 ?_
  refine lv_iload_n hx hb dX6_retract_14 rfl (lv_at hl 1 rfl) ?_
  obtain ⟨r_2, hr_2, h⟩ := bd_ex h
  refine ro_i (va_runS (As := [.int ((C.1 0) ||| (C.1 1)), .int x1]) (rest := []) ⟨hx, hb, hml, hown, hts⟩ (kX6_has l G q C ((C.1 0) ||| (C.1 1)) x1 r_2 hr_2) (va_cwS 2 hts gX6_retract_X6_has rfl rfl rfl (by decide +kernel) ⟨Nat.le_of_ble_eq_true rfl, Nat.le_of_ble_eq_true rfl⟩) (roS hP hK) rfl rfl hl.1 rfl (lv_room (Nat.le_of_ble_eq_true rfl)) dX6_retract_15 ⟨Nat.zero_le _, Nat.zero_le _⟩) ?_
  refine lv_if_ne (tgt := 31) hx hb dX6_retract_18 (by decide) (fun c_18 => ?_) (fun c_18 => ?_)
  · have h := br_F h c_18
    refine lv_aload_n hx hb dX6_retract_31 rfl (lv_at hl 0 rfl) ?_
    refine va_get (D := G.1) (ci := 5) (v := .int (C.1 0)) (C := RX6) (T := TX6) (N := 7) hx hb hts in_wsX6_retract_X6 hown hK.1 hP 0 rfl rfl 5 (by decide) (w_mem hts 3 rfl) (fun _ h9 => h9) rfl dX6_retract_32 ?_
    refine lv_iload_n hx hb dX6_retract_35 rfl (lv_at hl 1 rfl) ?_
    obtain ⟨r_3, hr_3, h⟩ := bd_ex h
    refine ro_i (va_runS (As := [.int (C.1 0), .int x1]) (rest := []) ⟨hx, hb, hml, hown, hts⟩ (kX6_has l G q C (C.1 0) x1 r_3 hr_3) (va_cwS 2 hts gX6_retract_X6_has rfl rfl rfl (by decide +kernel) ⟨Nat.le_of_ble_eq_true rfl, Nat.le_of_ble_eq_true rfl⟩) (roS hP hK) rfl rfl hl.1 rfl (lv_room (Nat.le_of_ble_eq_true rfl)) dX6_retract_36 ⟨Nat.zero_le _, Nat.zero_le _⟩) ?_
    refine lv_if_eq (tgt := 47) hx hb dX6_retract_39 (by decide) (fun c_39 => ?_) (fun c_39 => ?_)
    · have h := br_T h c_39
      refine lv_bipush (v := 114) hx hb dX6_retract_47 (by decide) ?_
      exact wX6_retract_49 bx hA hK C x1 114 h hP hD hS _ (lv_sub hl [0, 1] rfl)
    · have h := br_F h c_39
      refine lv_bipush (v := 99) hx hb dX6_retract_42 (by decide) ?_
      refine lv_goto (tgt := 49) hx hb dX6_retract_44 (by decide) ?_
      exact wX6_retract_49 bx hA hK C x1 99 h hP hD hS _ (lv_sub hl [0, 1] rfl)
  · have h := br_T h c_18
    cases h

def rxX6_retract : Room := { frames := 7, cells := 1, slots := 6, locals := 121 }

set_option maxHeartbeats 4000000 in
set_option maxRecDepth 100000 in
theorem xX6_retract_49 {p : Program} {l : Launch} {e : Env} {s : State} {m : MethodId} {args : Array Value} {below : List Frame} {meth : Method} {c : Code} {G : GT} {q : Nat → Nat} {A : Nat → Prop} {out : Nat × St} (bx : BX p RX6 wsX6_retract cX6_retract 3 (some .char) s m args meth c) (hA : ∀ q : Nat, s.heap.size ≤ q → A q) (hK : CK G s) (hl0 : l.stackTraces = false) (hE : XE A s) (hex : ∀ x ∈ c.exceptionTable.toList, False) (C : St) (x1 : Int32) (t0 : Int32) (h : pX6_retract_49 C x1 t0 = some (.inl out)) {H : Heap} {locs : List Loc} (hP : va_P G.1 vwCl (CW G q C) H) (hD : va_D A (CW G q C)) (hS : va_S A s.heap H locs) (ls : Array Slot) (hl : lv_has ls 3 [(0, .ref (q 0)), (1, .int x1)]) : W p l e rxX6_retract s m args below meth c H locs 0 0 (MQx G (CW G q) A s args below out) (F0 m 49 ls [.int t0]) := by
  obtain ⟨hx, hb, hr, hts, hown, hml, hlocks⟩ := id bx
  unfold pX6_retract_49 at h
  refine lv_istore_n (lv' := [(2, .int t0), (0, .ref (q 0)), (1, .int x1)]) hx hb dX6_retract_49 rfl hl (by decide) rfl (fun ls hl => ?_)
  refine lv_aload_n hx hb dX6_retract_50 rfl (lv_at hl 1 rfl) ?_
  refine lv_iconst (v := 1) hx hb dX6_retract_51 (by decide) ?_
  refine lv_iload_n hx hb dX6_retract_52 rfl (lv_at hl 2 rfl) ?_
  refine lv_ishl hx hb dX6_retract_53 ?_
  obtain ⟨u_4, hu_4, h⟩ := bd_ex h
  refine wr_v (Wd := CW G q) (va_runV (As := [.int ((1 : Int32) <<< (x1 &&& 31))]) (rest := []) ⟨hx, hb, hml, hown, hts⟩ (kX6_takeBack l G q C _ ((1 : Int32) <<< (x1 &&& 31)) u_4 hu_4) (cwV 1 hts gX6_retract_X6_takeBack rfl rfl rfl (by decide +kernel) ⟨Nat.le_of_ble_eq_true rfl, Nat.le_of_ble_eq_true rfl⟩) (wrV hP hD hK 5 0 rfl rfl) rfl rfl hl.1 rfl (lv_room (Nat.le_of_ble_eq_true rfl)) dX6_retract_54 ⟨Nat.zero_le _, Nat.zero_le _⟩) hD hS hA (fun _ => rfl) (fun H locs hP hD hS => ?_)
  refine lv_iload_n hx hb dX6_retract_57 rfl (lv_at hl 0 rfl) ?_
  obtain ⟨g58, h⟩ := gd_ex h
  cases h

set_option maxHeartbeats 4000000 in
set_option maxRecDepth 100000 in
theorem xX6_retract (l : Launch) (hl0 : l.stackTraces = false) (G : GT) (q : Nat → Nat) (C : St) (sz : Nat) (x1 : Int32) (r : Nat × St) (h : pX6_retract C x1 = some (.inl r)) : vx_Met l yX6_retract wsX6_retract rxX6_retract (va_Pc [.ref (q 0), .int x1] (xP G (CW G q C) sz)) (fun _ _ _ _ => False) (XCf G (CW G q) (va_A (CW G q C) sz) r) 1 6 (va_A (CW G q C) sz) := by
  refine vx_ofW (cc := cX6_retract) (maxL := 3) (ret := (some .char)) (by decide) rfl ?_
  intro p e s m args below meth c s₁ B hml hex hv
  obtain ⟨rfl, ⟨hsz, hP, hK, hD0⟩, hE⟩ := hv
  have bx := bx_of B hml
  subst hsz
  have hD := hD0.self (sz := s.heap.size)
  generalize hAe : va_A (CW G q C) s.heap.size = A at hD hE ⊢
  have hA : ∀ q : Nat, s.heap.size ≤ q → A q := fun q h => by rw [← hAe]; exact Or.inr h
  have hS : va_S A s.heap s.heap [] := va_S.rf
  obtain ⟨hx, hb, hr, hts, hown, hml, hlocks⟩ := id bx
  have hl := lv_entry ([.ref (q 0), .int x1]) (n := 3) (Nat.le_of_ble_eq_true rfl)
  rw [lg_entry_eq]
  generalize (lg_sl ([.ref (q 0), .int x1]) ++ List.replicate (3 - (lg_sl ([.ref (q 0), .int x1])).length) Slot.unset).toArray = ls at hl ⊢
  have hl : lv_has ls 3 [(0, .ref (q 0)), (1, .int x1)] := hl
  show W p l e rxX6_retract s m _ below meth c s.heap [] 0 0 (MQx G (CW G q) A s _ below r) (F0 m 0 ls [])
  unfold pX6_retract at h
  refine lv_aload_n hx hb dX6_retract_0 rfl (lv_at hl 0 rfl) ?_
  refine lv_iload_n hx hb dX6_retract_1 rfl (lv_at hl 1 rfl) ?_
  rcases tb_X h with ⟨er_1, hr_1, h⟩ | ⟨r_1, hr_1, h⟩
  · exact x_prop (Wd := CW G q) (vx_runV (As := [.int x1]) (rest := []) ⟨hx, hb, hml, hown, hts⟩ (xX6_checkFeature l hl0 G q C _ x1 er_1 hr_1) (cwV 1 hts gX6_retract_X6_checkFeature rfl rfl rfl (by decide +kernel) ⟨Nat.le_of_ble_eq_true rfl, Nat.le_of_ble_eq_true rfl⟩) (xV hP hD hS hK hA hE 5 0 rfl rfl) rfl rfl hl.1 rfl (lv_room (Nat.le_of_ble_eq_true rfl)) dX6_retract_2 ⟨Nat.le_of_ble_eq_true rfl, Nat.le_of_ble_eq_true rfl⟩) hD hS hA (fun _ => rfl) hex hlocks h
  refine ro_v (va_runV (As := [.int x1]) (rest := []) ⟨hx, hb, hml, hown, hts⟩ (kX6_checkFeature l G q C x1 r_1 hr_1) (cwV 1 hts gX6_retract_X6_checkFeature rfl rfl rfl (by decide +kernel) ⟨Nat.le_of_ble_eq_true rfl, Nat.le_of_ble_eq_true rfl⟩) (roV hP hK 5 0 rfl rfl) rfl rfl hl.1 rfl (lv_room (Nat.le_of_ble_eq_true rfl)) dX6_retract_2 ⟨Nat.zero_le _, Nat.zero_le _⟩) ?_
  refine lv_aload_n hx hb dX6_retract_5 rfl (lv_at hl 0 rfl) ?_
  refine va_get (D := G.1) (ci := 5) (v := .int (C.1 0)) (C := RX6) (T := TX6) (N := 7) hx hb hts in_wsX6_retract_X6 hown hK.1 hP 0 rfl rfl 5 (by decide) (w_mem hts 3 rfl) (fun _ h9 => h9) rfl dX6_retract_6 ?_
  refine lv_aload_n hx hb dX6_retract_9 rfl (lv_at hl 0 rfl) ?_
  refine va_get (D := G.1) (ci := 5) (v := .int (C.1 1)) (C := RX6) (T := TX6) (N := 7) hx hb hts in_wsX6_retract_X6 hown hK.1 hP 0 rfl rfl 6 (by decide) (w_mem hts 4 rfl) (fun _ h9 => h9) rfl dX6_retract_10 ?_
  refine lv_ior hx hb dX6_retract_13 ?_
  refine lv_iload_n hx hb dX6_retract_14 rfl (lv_at hl 1 rfl) ?_
  obtain ⟨r_2, hr_2, h⟩ := bd_ex h
  refine ro_i (va_runS (As := [.int ((C.1 0) ||| (C.1 1)), .int x1]) (rest := []) ⟨hx, hb, hml, hown, hts⟩ (kX6_has l G q C ((C.1 0) ||| (C.1 1)) x1 r_2 hr_2) (va_cwS 2 hts gX6_retract_X6_has rfl rfl rfl (by decide +kernel) ⟨Nat.le_of_ble_eq_true rfl, Nat.le_of_ble_eq_true rfl⟩) (roS hP hK) rfl rfl hl.1 rfl (lv_room (Nat.le_of_ble_eq_true rfl)) dX6_retract_15 ⟨Nat.zero_le _, Nat.zero_le _⟩) ?_
  refine lv_if_ne (tgt := 31) hx hb dX6_retract_18 (by decide) (fun c_18 => ?_) (fun c_18 => ?_)
  · have h := br_F h c_18
    refine lv_aload_n hx hb dX6_retract_31 rfl (lv_at hl 0 rfl) ?_
    refine va_get (D := G.1) (ci := 5) (v := .int (C.1 0)) (C := RX6) (T := TX6) (N := 7) hx hb hts in_wsX6_retract_X6 hown hK.1 hP 0 rfl rfl 5 (by decide) (w_mem hts 3 rfl) (fun _ h9 => h9) rfl dX6_retract_32 ?_
    refine lv_iload_n hx hb dX6_retract_35 rfl (lv_at hl 1 rfl) ?_
    obtain ⟨r_3, hr_3, h⟩ := bd_ex h
    refine ro_i (va_runS (As := [.int (C.1 0), .int x1]) (rest := []) ⟨hx, hb, hml, hown, hts⟩ (kX6_has l G q C (C.1 0) x1 r_3 hr_3) (va_cwS 2 hts gX6_retract_X6_has rfl rfl rfl (by decide +kernel) ⟨Nat.le_of_ble_eq_true rfl, Nat.le_of_ble_eq_true rfl⟩) (roS hP hK) rfl rfl hl.1 rfl (lv_room (Nat.le_of_ble_eq_true rfl)) dX6_retract_36 ⟨Nat.zero_le _, Nat.zero_le _⟩) ?_
    refine lv_if_eq (tgt := 47) hx hb dX6_retract_39 (by decide) (fun c_39 => ?_) (fun c_39 => ?_)
    · have h := br_T h c_39
      refine lv_bipush (v := 114) hx hb dX6_retract_47 (by decide) ?_
      exact xX6_retract_49 bx hA hK hl0 hE hex C x1 114 h hP hD hS _ (lv_sub hl [0, 1] rfl)
    · have h := br_F h c_39
      refine lv_bipush (v := 99) hx hb dX6_retract_42 (by decide) ?_
      refine lv_goto (tgt := 49) hx hb dX6_retract_44 (by decide) ?_
      exact xX6_retract_49 bx hA hK hl0 hE hex C x1 99 h hP hD hS _ (lv_sub hl [0, 1] rfl)
  · have h := br_T h c_18
    exact x_throwS (Wd := CW G q) (C := C) (k := 3) (cls := "java/lang/IllegalStateException") (text := "the feature is not decided") hx hb hl0 hts hown hml hlocks hex hK hE hP hS hl (by decide +kernel) (w_mem hts 1 rfl) (w_mem hts 2 rfl) (List.mem_of_getElem? (i := 6) rfl) (fun w h => List.mem_cons_of_mem _ (List.mem_append_left _ (List.mem_append_right _ h))) xB_63 xG_63_59 dX6_retract_21 dX6_retract_24 dX6_retract_25 dX6_retract_27 dX6_retract_30 ⟨Nat.le_of_ble_eq_true rfl, Nat.le_of_ble_eq_true rfl, Nat.le_of_ble_eq_true rfl, Nat.le_of_ble_eq_true rfl⟩ ((xl_ h).symm) rfl
