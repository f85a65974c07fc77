def rmX5_grow : Room := { frames := 0, cells := 0, slots := 0, locals := 0 }

theorem in_wsX5_grow_X5 : ∀ w ∈ u_ws RX5 TX5 6, w ∈ wsX5_grow := by decide +kernel

set_option maxHeartbeats 4000000 in
set_option maxRecDepth 100000 in
theorem kX5_grow (l : Launch) (G : GT) (q : Nat → Nat) (C : St) (sz : Nat) (x1 : Int32) (r : Int32 × St) (h : pX5_grow C x1 = some r) : Met l yX5_grow wsX5_grow rmX5_grow (va_Pc [.ref (q 1), .int x1] (wrP G (CW G q C) sz)) (va_Qi (fun v u => (v, u) = r) (fun u t => va_P G.1 vwCl (CW G q u) t.heap) (va_A (CW G q C) sz)) 0 0 (va_A (CW G q C) sz) := by
  refine Met.ofW (cc := cX5_grow) (maxL := 3) (ret := (some .int)) (by decide) rfl ?_
  intro p e s m args below meth c s₁ B hml hv
  obtain ⟨rfl, hsz, hP, hK, hD0⟩ := hv
  have bx := bx_of B hml
  subst hsz
  have hD := hD0.self (sz := s.heap.size)
  generalize hAe : va_A (CW G q C) s.heap.size = A at hD ⊢
  have hA : ∀ q : Nat, s.heap.size ≤ q → A q := fun q h => by rw [← hAe]; exact Or.inr h
  have hS : va_S A s.heap s.heap [] := va_S.rf
  obtain ⟨hx, hb, hr, hts, hown, hml, hlocks⟩ := id bx
  have hl := lv_entry ([.ref (q 1), .int x1]) (n := 3) (Nat.le_of_ble_eq_true rfl)
  rw [lg_entry_eq]
  generalize (lg_sl ([.ref (q 1), .int x1]) ++ List.replicate (3 - (lg_sl ([.ref (q 1), .int x1])).length) Slot.unset).toArray = ls at hl ⊢
  have hl : lv_has ls 3 [(0, .ref (q 1)), (1, .int x1)] := hl
  show W p l e rmX5_grow s m _ below meth c s.heap [] 0 0 (MQi G (CW G q) A s _ below r) (F0 m 0 ls [])
  unfold pX5_grow at h
  refine lv_aload_n hx hb dX5_grow_0 rfl (lv_at hl 0 rfl) ?_
  refine va_get (D := G.1) (ci := 4) (v := .int (C.1 3)) (C := RX5) (T := TX5) (N := 6) hx hb hts in_wsX5_grow_X5 hown hK.1 hP 1 rfl rfl 5 (by decide) (w_mem hts 1 rfl) (fun _ h9 => h9) rfl dX5_grow_1 ?_
  refine lv_topi (fun v_1 ev_1 => ?_)
  have h := ltv_at h v_1 ev_1
  refine lv_istore_n (lv' := [(2, .int v_1), (0, .ref (q 1)), (1, .int x1)]) hx hb dX5_grow_4 rfl hl (by decide) rfl (fun ls hl => ?_)
  refine lv_aload_n hx hb dX5_grow_5 rfl (lv_at hl 1 rfl) ?_
  refine va_get (D := G.1) (ci := 4) (v := .ref (q 6)) (C := RX5) (T := TX5) (N := 6) hx hb hts in_wsX5_grow_X5 hown hK.1 hP 1 rfl rfl 0 (by decide) (w_mem hts 2 rfl) (fun _ h9 => h9) rfl dX5_grow_6 ?_
  refine lv_iload_n hx hb dX5_grow_9 rfl (lv_at hl 0 rfl) ?_
  refine lv_iload_n hx hb dX5_grow_10 rfl (lv_at hl 2 rfl) ?_
  obtain ⟨g11, h⟩ := gd_ex h
  refine va_iast (D := G.1) hx hb hK.1 hP hD hS 6 0 rfl rfl g11 dX5_grow_11 (fun H locs hP hD hS => ?_)
  have hP : va_P G.1 vwCl (CW G q (sA C 0 v_1.toNatClampNeg x1)) H := hP
  have hD : va_D A (CW G q (sA C 0 v_1.toNatClampNeg x1)) := hD
  obtain ⟨C_2, eC_2, h⟩ := ltv_ex h
  rw [← eC_2] at hP hD
  refine lv_aload_n hx hb dX5_grow_12 rfl (lv_at hl 1 rfl) ?_
  refine va_get (D := G.1) (ci := 4) (v := .ref (q 7)) (C := RX5) (T := TX5) (N := 6) hx hb hts in_wsX5_grow_X5 hown hK.1 hP 1 rfl rfl 1 (by decide) (w_mem hts 3 rfl) (fun _ h9 => h9) rfl dX5_grow_13 ?_
  refine lv_iload_n hx hb dX5_grow_16 rfl (lv_at hl 2 rfl) ?_
  refine lv_dup2_11 hx hb dX5_grow_17 rfl rfl ?_
  obtain ⟨g18, h⟩ := gd_ex h
  refine va_iald (D := G.1) hx hb hK.1 hP 7 0 rfl rfl g18 dX5_grow_18 ?_
  refine lv_iconst (v := 1) hx hb dX5_grow_19 (by decide) ?_
  refine lv_iload_n hx hb dX5_grow_20 rfl (lv_at hl 0 rfl) ?_
  refine lv_ishl hx hb dX5_grow_21 ?_
  refine lv_ior hx hb dX5_grow_22 ?_
  obtain ⟨g23, h⟩ := gd_ex h
  refine va_iast (D := G.1) hx hb hK.1 hP hD hS 7 0 rfl rfl g23 dX5_grow_23 (fun H locs hP hD hS => ?_)
  have hP : va_P G.1 vwCl (CW G q (sA C_2 1 x1.toNatClampNeg ((C_2.2 1 x1.toNatClampNeg) ||| ((1 : Int32) <<< (v_1 &&& 31))))) H := hP
  have hD : va_D A (CW G q (sA C_2 1 x1.toNatClampNeg ((C_2.2 1 x1.toNatClampNeg) ||| ((1 : Int32) <<< (v_1 &&& 31))))) := hD
  obtain ⟨C_3, eC_3, h⟩ := ltv_ex h
  rw [← eC_3] at hP hD
  refine lv_aload_n hx hb dX5_grow_24 rfl (lv_at hl 1 rfl) ?_
  refine va_get (D := G.1) (ci := 4) (v := .ref (q 9)) (C := RX5) (T := TX5) (N := 6) hx hb hts in_wsX5_grow_X5 hown hK.1 hP 1 rfl rfl 3 (by decide) (w_mem hts 4 rfl) (fun _ h9 => h9) rfl dX5_grow_25 ?_
  refine lv_iload_n hx hb dX5_grow_28 rfl (lv_at hl 0 rfl) ?_
  refine lv_bipush (v := 12) hx hb dX5_grow_29 (by decide) ?_
  obtain ⟨g31, h⟩ := gd_ex h
  refine va_iast (D := G.1) hx hb hK.1 hP hD hS 9 0 rfl rfl g31 dX5_grow_31 (fun H locs hP hD hS => ?_)
  have hP : va_P G.1 vwCl (CW G q (sA C_3 3 v_1.toNatClampNeg 12)) H := hP
  have hD : va_D A (CW G q (sA C_3 3 v_1.toNatClampNeg 12)) := hD
  obtain ⟨C_4, eC_4, h⟩ := ltv_ex h
  rw [← eC_4] at hP hD
  refine lv_aload_n hx hb dX5_grow_32 rfl (lv_at hl 1 rfl) ?_
  refine lv_dup hx hb dX5_grow_33 rfl ?_
  refine va_get (D := G.1) (ci := 4) (v := .int (C_4.1 3)) (C := RX5) (T := TX5) (N := 6) hx hb hts in_wsX5_grow_X5 hown hK.1 hP 1 rfl rfl 5 (by decide) (w_mem hts 1 rfl) (fun _ h9 => h9) rfl dX5_grow_34 ?_
  refine lv_iconst (v := 1) hx hb dX5_grow_37 (by decide) ?_
  refine lv_iadd hx hb dX5_grow_38 ?_
  refine va_put (D := G.1) (ci := 4) (v := .int ((C_4.1 3) + 1)) (ty := .int) (C := RX5) (T := TX5) (N := 6) hx hb hts in_wsX5_grow_X5 tyX5 tyX5_ok nmX5 hown hK.1 hP hD hS 1 rfl rfl 5 (by decide) (w_mem hts 1 rfl) (fun _ h9 => h9) rfl (by decide +kernel) rfl rfl (Nat.le_of_ble_eq_true rfl) dX5_grow_39 (fun H locs hP hD hS => ?_)
  have hP : va_P G.1 vwCl (CW G q (sS C_4 3 ((C_4.1 3) + 1))) H := hP
  have hD : va_D A (CW G q (sS C_4 3 ((C_4.1 3) + 1))) := hD
  obtain ⟨C_5, eC_5, h⟩ := ltv_ex h
  rw [← eC_5] at hP hD
  refine lv_iload_n hx hb dX5_grow_42 rfl (lv_at hl 0 rfl) ?_
  exact MQi.end hx hb hr hlocks hP hS dX5_grow_43 rfl h

def rmX3_append : Room := { frames := 0, cells := 0, slots := 0, locals := 0 }

theorem in_wsX3_append_X3 : ∀ w ∈ u_ws RX3 TX3 5, w ∈ wsX3_append := by decide +kernel

set_option maxHeartbeats 4000000 in
set_option maxRecDepth 100000 in
theorem kX3_append (l : Launch) (G : GT) (q : Nat → Nat) (C : St) (sz : Nat) (x1 : Int32) (x2 : Int32) (x3 : Int32) (r : Int32 × St) (h : pX3_append C x1 x2 x3 = some r) : Met l yX3_append wsX3_append rmX3_append (va_Pc [.ref (q 2), .int x1, .int x2, .int x3] (wrP G (CW G q C) sz)) (va_Qi (fun v u => (v, u) = r) (fun u t => va_P G.1 vwCl (CW G q u) t.heap) (va_A (CW G q C) sz)) 0 0 (va_A (CW G q C) sz) := by
  refine Met.ofW (cc := cX3_append) (maxL := 5) (ret := (some .int)) (by decide) rfl ?_
  intro p e s m args below meth c s₁ B hml hv
  obtain ⟨rfl, hsz, hP, hK, hD0⟩ := hv
  have bx := bx_of B hml
  subst hsz
  have hD := hD0.self (sz := s.heap.size)
  generalize hAe : va_A (CW G q C) s.heap.size = A at hD ⊢
  have hA : ∀ q : Nat, s.heap.size ≤ q → A q := fun q h => by rw [← hAe]; exact Or.inr h
  have hS : va_S A s.heap s.heap [] := va_S.rf
  obtain ⟨hx, hb, hr, hts, hown, hml, hlocks⟩ := id bx
  have hl := lv_entry ([.ref (q 2), .int x1, .int x2, .int x3]) (n := 5) (Nat.le_of_ble_eq_true rfl)
  rw [lg_entry_eq]
  generalize (lg_sl ([.ref (q 2), .int x1, .int x2, .int x3]) ++ List.replicate (5 - (lg_sl ([.ref (q 2), .int x1, .int x2, .int x3])).length) Slot.unset).toArray = ls at hl ⊢
  have hl : lv_has ls 5 [(0, .ref (q 2)), (1, .int x1), (2, .int x2), (3, .int x3)] := hl
  show W p l e rmX3_append s m _ below meth c s.heap [] 0 0 (MQi G (CW G q) A s _ below r) (F0 m 0 ls [])
  unfold pX3_append at h
  refine lv_aload_n hx hb dX3_append_0 rfl (lv_at hl 0 rfl) ?_
  refine va_get (D := G.1) (ci := 3) (v := .int (C.1 5)) (C := RX3) (T := TX3) (N := 5) hx hb hts in_wsX3_append_X3 hown hK.1 hP 2 rfl rfl 4 (by decide) (w_mem hts 1 rfl) (fun _ h9 => h9) rfl dX3_append_1 ?_
  refine lv_topi (fun v_1 ev_1 => ?_)
  have h := ltv_at h v_1 ev_1
  refine lv_istore (lv' := [(4, .int v_1), (0, .ref (q 2)), (1, .int x1), (2, .int x2), (3, .int x3)]) hx hb dX3_append_4 hl (by decide) rfl (fun ls hl => ?_)
  refine lv_aload_n hx hb dX3_append_6 rfl (lv_at hl 1 rfl) ?_
  refine va_get (D := G.1) (ci := 3) (v := .ref (q 10)) (C := RX3) (T := TX3) (N := 5) hx hb hts in_wsX3_append_X3 hown hK.1 hP 2 rfl rfl 0 (by decide) (w_mem hts 2 rfl) (fun _ h9 => h9) rfl dX3_append_7 ?_
  refine lv_iload hx hb dX3_append_10 (lv_at hl 0 rfl) ?_
  refine lv_iload_n hx hb dX3_append_12 rfl (lv_at hl 2 rfl) ?_
  obtain ⟨g13, h⟩ := gd_ex h
  refine va_iast (D := G.1) hx hb hK.1 hP hD hS 10 0 rfl rfl g13 dX3_append_13 (fun H locs hP hD hS => ?_)
  have hP : va_P G.1 vwCl (CW G q (sA C 4 v_1.toNatClampNeg x1)) H := hP
  have hD : va_D A (CW G q (sA C 4 v_1.toNatClampNeg x1)) := hD
  obtain ⟨C_2, eC_2, h⟩ := ltv_ex h
  rw [← eC_2] at hP hD
  refine lv_aload_n hx hb dX3_append_14 rfl (lv_at hl 1 rfl) ?_
  refine va_get (D := G.1) (ci := 3) (v := .ref (q 11)) (C := RX3) (T := TX3) (N := 5) hx hb hts in_wsX3_append_X3 hown hK.1 hP 2 rfl rfl 1 (by decide) (w_mem hts 3 rfl) (fun _ h9 => h9) rfl dX3_append_15 ?_
  refine lv_iload hx hb dX3_append_18 (lv_at hl 0 rfl) ?_
  refine lv_iload_n hx hb dX3_append_20 rfl (lv_at hl 3 rfl) ?_
  obtain ⟨g21, h⟩ := gd_ex h
  refine va_iast (D := G.1) hx hb hK.1 hP hD hS 11 0 rfl rfl g21 dX3_append_21 (fun H locs hP hD hS => ?_)
  have hP : va_P G.1 vwCl (CW G q (sA C_2 5 v_1.toNatClampNeg x2)) H := hP
  have hD : va_D A (CW G q (sA C_2 5 v_1.toNatClampNeg x2)) := hD
  obtain ⟨C_3, eC_3, h⟩ := ltv_ex h
  rw [← eC_3] at hP hD
  refine lv_aload_n hx hb dX3_append_22 rfl (lv_at hl 1 rfl) ?_
  refine va_get (D := G.1) (ci := 3) (v := .ref (q 12)) (C := RX3) (T := TX3) (N := 5) hx hb hts in_wsX3_append_X3 hown hK.1 hP 2 rfl rfl 2 (by decide) (w_mem hts 4 rfl) (fun _ h9 => h9) rfl dX3_append_23 ?_
  refine lv_iload hx hb dX3_append_26 (lv_at hl 0 rfl) ?_
  refine lv_iload_n hx hb dX3_append_28 rfl (lv_at hl 4 rfl) ?_
  obtain ⟨g29, h⟩ := gd_ex h
  refine va_iast (D := G.1) hx hb hK.1 hP hD hS 12 0 rfl rfl g29 dX3_append_29 (fun H locs hP hD hS => ?_)
  have hP : va_P G.1 vwCl (CW G q (sA C_3 6 v_1.toNatClampNeg x3)) H := hP
  have hD : va_D A (CW G q (sA C_3 6 v_1.toNatClampNeg x3)) := hD
  obtain ⟨C_4, eC_4, h⟩ := ltv_ex h
  rw [← eC_4] at hP hD
  refine lv_aload_n hx hb dX3_append_30 rfl (lv_at hl 1 rfl) ?_
  refine lv_dup hx hb dX3_append_31 rfl ?_
  refine va_get (D := G.1) (ci := 3) (v := .int (C_4.1 4)) (C := RX3) (T := TX3) (N := 5) hx hb hts in_wsX3_append_X3 hown hK.1 hP 2 rfl rfl 3 (by decide) (w_mem hts 5 rfl) (fun _ h9 => h9) rfl dX3_append_32 ?_
  refine lv_iconst (v := 1) hx hb dX3_append_35 (by decide) ?_
  refine lv_iload hx hb dX3_append_36 (lv_at hl 0 rfl) ?_
  refine lv_ishl hx hb dX3_append_38 ?_
  refine lv_ior hx hb dX3_append_39 ?_
  refine va_put (D := G.1) (ci := 3) (v := .int ((C_4.1 4) ||| ((1 : Int32) <<< (v_1 &&& 31)))) (ty := .int) (C := RX3) (T := TX3) (N := 5) hx hb hts in_wsX3_append_X3 tyX3 tyX3_ok nmX3 hown hK.1 hP hD hS 2 rfl rfl 3 (by decide) (w_mem hts 5 rfl) (fun _ h9 => h9) rfl (by decide +kernel) rfl rfl (Nat.le_of_ble_eq_true rfl) dX3_append_40 (fun H locs hP hD hS => ?_)
  have hP : va_P G.1 vwCl (CW G q (sS C_4 4 ((C_4.1 4) ||| ((1 : Int32) <<< (v_1 &&& 31))))) H := hP
  have hD : va_D A (CW G q (sS C_4 4 ((C_4.1 4) ||| ((1 : Int32) <<< (v_1 &&& 31))))) := hD
  obtain ⟨C_5, eC_5, h⟩ := ltv_ex h
  rw [← eC_5] at hP hD
  refine lv_aload_n hx hb dX3_append_43 rfl (lv_at hl 1 rfl) ?_
  refine lv_dup hx hb dX3_append_44 rfl ?_
  refine va_get (D := G.1) (ci := 3) (v := .int (C_5.1 5)) (C := RX3) (T := TX3) (N := 5) hx hb hts in_wsX3_append_X3 hown hK.1 hP 2 rfl rfl 4 (by decide) (w_mem hts 1 rfl) (fun _ h9 => h9) rfl dX3_append_45 ?_
  refine lv_iconst (v := 1) hx hb dX3_append_48 (by decide) ?_
  refine lv_iadd hx hb dX3_append_49 ?_
  refine va_put (D := G.1) (ci := 3) (v := .int ((C_5.1 5) + 1)) (ty := .int) (C := RX3) (T := TX3) (N := 5) hx hb hts in_wsX3_append_X3 tyX3 tyX3_ok nmX3 hown hK.1 hP hD hS 2 rfl rfl 4 (by decide) (w_mem hts 1 rfl) (fun _ h9 => h9) rfl (by decide +kernel) rfl rfl (Nat.le_of_ble_eq_true rfl) dX3_append_50 (fun H locs hP hD hS => ?_)
  have hP : va_P G.1 vwCl (CW G q (sS C_5 5 ((C_5.1 5) + 1))) H := hP
  have hD : va_D A (CW G q (sS C_5 5 ((C_5.1 5) + 1))) := hD
  obtain ⟨C_6, eC_6, h⟩ := ltv_ex h
  rw [← eC_6] at hP hD
  refine lv_iload hx hb dX3_append_53 (lv_at hl 0 rfl) ?_
  exact MQi.end hx hb hr hlocks hP hS dX3_append_55 rfl h

def rmX3_dropLast : Room := { frames := 0, cells := 0, slots := 0, locals := 0 }

theorem in_wsX3_dropLast_X3 : ∀ w ∈ u_ws RX3 TX3 5, w ∈ wsX3_dropLast := by decide +kernel

set_option maxHeartbeats 4000000 in
set_option maxRecDepth 100000 in
theorem kX3_dropLast (l : Launch) (G : GT) (q : Nat → Nat) (C : St) (sz : Nat) (r : St) (h : pX3_dropLast C = some r) : Met l yX3_dropLast wsX3_dropLast rmX3_dropLast (va_Pc [.ref (q 2)] (wrP G (CW G q C) sz)) (va_Qv (fun u => u = r) (fun u t => va_P G.1 vwCl (CW G q u) t.heap) (va_A (CW G q C) sz)) 0 0 (va_A (CW G q C) sz) := by
  refine Met.ofW (cc := cX3_dropLast) (maxL := 1) (ret := none) (by decide) rfl ?_
  intro p e s m args below meth c s₁ B hml hv
  obtain ⟨rfl, hsz, hP, hK, hD0⟩ := hv
  have bx := bx_of B hml
  subst hsz
  have hD := hD0.self (sz := s.heap.size)
  generalize hAe : va_A (CW G q C) s.heap.size = A at hD ⊢
  have hA : ∀ q : Nat, s.heap.size ≤ q → A q := fun q h => by rw [← hAe]; exact Or.inr h
  have hS : va_S A s.heap s.heap [] := va_S.rf
  obtain ⟨hx, hb, hr, hts, hown, hml, hlocks⟩ := id bx
  have hl := lv_entry ([.ref (q 2)]) (n := 1) (Nat.le_of_ble_eq_true rfl)
  rw [lg_entry_eq]
  generalize (lg_sl ([.ref (q 2)]) ++ List.replicate (1 - (lg_sl ([.ref (q 2)])).length) Slot.unset).toArray = ls at hl ⊢
  have hl : lv_has ls 1 [(0, .ref (q 2))] := hl
  show W p l e rmX3_dropLast s m _ below meth c s.heap [] 0 0 (MQv G (CW G q) A s _ below r) (F0 m 0 ls [])
  unfold pX3_dropLast at h
  refine lv_aload_n hx hb dX3_dropLast_0 rfl (lv_at hl 0 rfl) ?_
  refine lv_dup hx hb dX3_dropLast_1 rfl ?_
  refine va_get (D := G.1) (ci := 3) (v := .int (C.1 5)) (C := RX3) (T := TX3) (N := 5) hx hb hts in_wsX3_dropLast_X3 hown hK.1 hP 2 rfl rfl 4 (by decide) (w_mem hts 1 rfl) (fun _ h9 => h9) rfl dX3_dropLast_2 ?_
  refine lv_iconst (v := 1) hx hb dX3_dropLast_5 (by decide) ?_
  refine lv_isub hx hb dX3_dropLast_6 ?_
  refine va_put (D := G.1) (ci := 3) (v := .int ((C.1 5) - 1)) (ty := .int) (C := RX3) (T := TX3) (N := 5) hx hb hts in_wsX3_dropLast_X3 tyX3 tyX3_ok nmX3 hown hK.1 hP hD hS 2 rfl rfl 4 (by decide) (w_mem hts 1 rfl) (fun _ h9 => h9) rfl (by decide +kernel) rfl rfl (Nat.le_of_ble_eq_true rfl) dX3_dropLast_7 (fun H locs hP hD hS => ?_)
  have hP : va_P G.1 vwCl (CW G q (sS C 5 ((C.1 5) - 1))) H := hP
  have hD : va_D A (CW G q (sS C 5 ((C.1 5) - 1))) := hD
  obtain ⟨C_1, eC_1, h⟩ := ltv_ex h
  rw [← eC_1] at hP hD
  refine lv_aload_n hx hb dX3_dropLast_10 rfl (lv_at hl 0 rfl) ?_
  refine lv_dup hx hb dX3_dropLast_11 rfl ?_
  refine va_get (D := G.1) (ci := 3) (v := .int (C_1.1 4)) (C := RX3) (T := TX3) (N := 5) hx hb hts in_wsX3_dropLast_X3 hown hK.1 hP 2 rfl rfl 3 (by decide) (w_mem hts 2 rfl) (fun _ h9 => h9) rfl dX3_dropLast_12 ?_
  refine lv_iconst (v := 1) hx hb dX3_dropLast_15 (by decide) ?_
  refine lv_aload_n hx hb dX3_dropLast_16 rfl (lv_at hl 0 rfl) ?_
  refine va_get (D := G.1) (ci := 3) (v := .int (C_1.1 5)) (C := RX3) (T := TX3) (N := 5) hx hb hts in_wsX3_dropLast_X3 hown hK.1 hP 2 rfl rfl 4 (by decide) (w_mem hts 1 rfl) (fun _ h9 => h9) rfl dX3_dropLast_17 ?_
  refine lv_ishl hx hb dX3_dropLast_20 ?_
  refine lv_iconst (v := (-1)) hx hb dX3_dropLast_21 (by decide) ?_
  refine lv_ixor hx hb dX3_dropLast_22 ?_
  refine lv_iand hx hb dX3_dropLast_23 ?_
  refine va_put (D := G.1) (ci := 3) (v := .int ((C_1.1 4) &&& (((1 : Int32) <<< ((C_1.1 5) &&& 31)) ^^^ (-1)))) (ty := .int) (C := RX3) (T := TX3) (N := 5) hx hb hts in_wsX3_dropLast_X3 tyX3 tyX3_ok nmX3 hown hK.1 hP hD hS 2 rfl rfl 3 (by decide) (w_mem hts 2 rfl) (fun _ h9 => h9) rfl (by decide +kernel) rfl rfl (Nat.le_of_ble_eq_true rfl) dX3_dropLast_24 (fun H locs hP hD hS => ?_)
  have hP : va_P G.1 vwCl (CW G q (sS C_1 4 ((C_1.1 4) &&& (((1 : Int32) <<< ((C_1.1 5) &&& 31)) ^^^ (-1))))) H := hP
  have hD : va_D A (CW G q (sS C_1 4 ((C_1.1 4) &&& (((1 : Int32) <<< ((C_1.1 5) &&& 31)) ^^^ (-1))))) := hD
  obtain ⟨C_2, eC_2, h⟩ := ltv_ex h
  rw [← eC_2] at hP hD
  exact MQv.end hx hb hr hlocks hP hS dX3_dropLast_27 h

def rmX2_setFirst : Room := { frames := 0, cells := 0, slots := 0, locals := 0 }

theorem in_wsX2_setFirst_X2 : ∀ w ∈ u_ws RX2 TX2 5, w ∈ wsX2_setFirst := by decide +kernel

set_option maxHeartbeats 4000000 in
set_option maxRecDepth 100000 in
theorem kX2_setFirst (l : Launch) (G : GT) (q : Nat → Nat) (C : St) (sz : Nat) (x1 : Int32) (x2 : Int32) (r : St) (h : pX2_setFirst C x1 x2 = some r) : Met l yX2_setFirst wsX2_setFirst rmX2_setFirst (va_Pc [.ref (q 3), .int x1, .int x2] (wrP G (CW G q C) sz)) (va_Qv (fun u => u = r) (fun u t => va_P G.1 vwCl (CW G q u) t.heap) (va_A (CW G q C) sz)) 0 0 (va_A (CW G q C) sz) := by
  refine Met.ofW (cc := cX2_setFirst) (maxL := 3) (ret := none) (by decide) rfl ?_
  intro p e s m args below meth c s₁ B hml hv
  obtain ⟨rfl, hsz, hP, hK, hD0⟩ := hv
  have bx := bx_of B hml
  subst hsz
  have hD := hD0.self (sz := s.heap.size)
  generalize hAe : va_A (CW G q C) s.heap.size = A at hD ⊢
  have hA : ∀ q : Nat, s.heap.size ≤ q → A q := fun q h => by rw [← hAe]; exact Or.inr h
  have hS : va_S A s.heap s.heap [] := va_S.rf
  obtain ⟨hx, hb, hr, hts, hown, hml, hlocks⟩ := id bx
  have hl := lv_entry ([.ref (q 3), .int x1, .int x2]) (n := 3) (Nat.le_of_ble_eq_true rfl)
  rw [lg_entry_eq]
  generalize (lg_sl ([.ref (q 3), .int x1, .int x2]) ++ List.replicate (3 - (lg_sl ([.ref (q 3), .int x1, .int x2])).length) Slot.unset).toArray = ls at hl ⊢
  have hl : lv_has ls 3 [(0, .ref (q 3)), (1, .int x1), (2, .int x2)] := hl
  show W p l e rmX2_setFirst s m _ below meth c s.heap [] 0 0 (MQv G (CW G q) A s _ below r) (F0 m 0 ls [])
  unfold pX2_setFirst at h
  refine lv_aload_n hx hb dX2_setFirst_0 rfl (lv_at hl 0 rfl) ?_
  refine va_get (D := G.1) (ci := 2) (v := .ref (q 13)) (C := RX2) (T := TX2) (N := 5) hx hb hts in_wsX2_setFirst_X2 hown hK.1 hP 3 rfl rfl 0 (by decide) (w_mem hts 1 rfl) (fun _ h9 => h9) rfl dX2_setFirst_1 ?_
  refine lv_iload_n hx hb dX2_setFirst_4 rfl (lv_at hl 1 rfl) ?_
  refine lv_iload_n hx hb dX2_setFirst_5 rfl (lv_at hl 2 rfl) ?_
  obtain ⟨g6, h⟩ := gd_ex h
  refine va_iast (D := G.1) hx hb hK.1 hP hD hS 13 0 rfl rfl g6 dX2_setFirst_6 (fun H locs hP hD hS => ?_)
  have hP : va_P G.1 vwCl (CW G q (sA C 7 x1.toNatClampNeg x2)) H := hP
  have hD : va_D A (CW G q (sA C 7 x1.toNatClampNeg x2)) := hD
  obtain ⟨C_1, eC_1, h⟩ := ltv_ex h
  rw [← eC_1] at hP hD
  exact MQv.end hx hb hr hlocks hP hS dX2_setFirst_7 h

def rmX6_takeBack : Room := { frames := 0, cells := 0, slots := 0, locals := 0 }

theorem in_wsX6_takeBack_X6 : ∀ w ∈ u_ws RX6 TX6 7, w ∈ wsX6_takeBack := by decide +kernel

set_option maxHeartbeats 4000000 in
set_option maxRecDepth 100000 in
theorem kX6_takeBack (l : Launch) (G : GT) (q : Nat → Nat) (C : St) (sz : Nat) (x1 : Int32) (r : St) (h : pX6_takeBack C x1 = some r) : Met l yX6_takeBack wsX6_takeBack rmX6_takeBack (va_Pc [.ref (q 0), .int x1] (wrP G (CW G q C) sz)) (va_Qv (fun u => u = r) (fun u t => va_P G.1 vwCl (CW G q u) t.heap) (va_A (CW G q C) sz)) 0 0 (va_A (CW G q C) sz) := by
  refine Met.ofW (cc := cX6_takeBack) (maxL := 2) (ret := none) (by decide) rfl ?_
  intro p e s m args below meth c s₁ B hml hv
  obtain ⟨rfl, hsz, hP, hK, hD0⟩ := hv
  have bx := bx_of B hml
  subst hsz
  have hD := hD0.self (sz := s.heap.size)
  generalize hAe : va_A (CW G q C) s.heap.size = A at hD ⊢
  have hA : ∀ q : Nat, s.heap.size ≤ q → A q := fun q h => by rw [← hAe]; exact Or.inr h
  have hS : va_S A s.heap s.heap [] := va_S.rf
  obtain ⟨hx, hb, hr, hts, hown, hml, hlocks⟩ := id bx
  have hl := lv_entry ([.ref (q 0), .int x1]) (n := 2) (Nat.le_of_ble_eq_true rfl)
  rw [lg_entry_eq]
  generalize (lg_sl ([.ref (q 0), .int x1]) ++ List.replicate (2 - (lg_sl ([.ref (q 0), .int x1])).length) Slot.unset).toArray = ls at hl ⊢
  have hl : lv_has ls 2 [(0, .ref (q 0)), (1, .int x1)] := hl
  show W p l e rmX6_takeBack s m _ below meth c s.heap [] 0 0 (MQv G (CW G q) A s _ below r) (F0 m 0 ls [])
  unfold pX6_takeBack at h
  refine lv_aload_n hx hb dX6_takeBack_0 rfl (lv_at hl 0 rfl) ?_
  refine lv_dup hx hb dX6_takeBack_1 rfl ?_
  refine va_get (D := G.1) (ci := 5) (v := .int (C.1 0)) (C := RX6) (T := TX6) (N := 7) hx hb hts in_wsX6_takeBack_X6 hown hK.1 hP 0 rfl rfl 5 (by decide) (w_mem hts 1 rfl) (fun _ h9 => h9) rfl dX6_takeBack_2 ?_
  refine lv_iload_n hx hb dX6_takeBack_5 rfl (lv_at hl 1 rfl) ?_
  refine lv_iconst (v := (-1)) hx hb dX6_takeBack_6 (by decide) ?_
  refine lv_ixor hx hb dX6_takeBack_7 ?_
  refine lv_iand hx hb dX6_takeBack_8 ?_
  refine va_put (D := G.1) (ci := 5) (v := .int ((C.1 0) &&& (x1 ^^^ (-1)))) (ty := .int) (C := RX6) (T := TX6) (N := 7) hx hb hts in_wsX6_takeBack_X6 tyX6 tyX6_ok nmX6 hown hK.1 hP hD hS 0 rfl rfl 5 (by decide) (w_mem hts 1 rfl) (fun _ h9 => h9) rfl (by decide +kernel) rfl rfl (Nat.le_of_ble_eq_true rfl) dX6_takeBack_9 (fun H locs hP hD hS => ?_)
  have hP : va_P G.1 vwCl (CW G q (sS C 0 ((C.1 0) &&& (x1 ^^^ (-1))))) H := hP
  have hD : va_D A (CW G q (sS C 0 ((C.1 0) &&& (x1 ^^^ (-1))))) := hD
  obtain ⟨C_1, eC_1, h⟩ := ltv_ex h
  rw [← eC_1] at hP hD
  refine lv_aload_n hx hb dX6_takeBack_12 rfl (lv_at hl 0 rfl) ?_
  refine lv_dup hx hb dX6_takeBack_13 rfl ?_
  refine va_get (D := G.1) (ci := 5) (v := .int (C_1.1 1)) (C := RX6) (T := TX6) (N := 7) hx hb hts in_wsX6_takeBack_X6 hown hK.1 hP 0 rfl rfl 6 (by decide) (w_mem hts 2 rfl) (fun _ h9 => h9) rfl dX6_takeBack_14 ?_
  refine lv_iload_n hx hb dX6_takeBack_17 rfl (lv_at hl 1 rfl) ?_
  refine lv_iconst (v := (-1)) hx hb dX6_takeBack_18 (by decide) ?_
  refine lv_ixor hx hb dX6_takeBack_19 ?_
  refine lv_iand hx hb dX6_takeBack_20 ?_
  refine va_put (D := G.1) (ci := 5) (v := .int ((C_1.1 1) &&& (x1 ^^^ (-1)))) (ty := .int) (C := RX6) (T := TX6) (N := 7) hx hb hts in_wsX6_takeBack_X6 tyX6 tyX6_ok nmX6 hown hK.1 hP hD hS 0 rfl rfl 6 (by decide) (w_mem hts 2 rfl) (fun _ h9 => h9) rfl (by decide +kernel) rfl rfl (Nat.le_of_ble_eq_true rfl) dX6_takeBack_21 (fun H locs hP hD hS => ?_)
  have hP : va_P G.1 vwCl (CW G q (sS C_1 1 ((C_1.1 1) &&& (x1 ^^^ (-1))))) H := hP
  have hD : va_D A (CW G q (sS C_1 1 ((C_1.1 1) &&& (x1 ^^^ (-1))))) := hD
  obtain ⟨C_2, eC_2, h⟩ := ltv_ex h
  rw [← eC_2] at hP hD
  exact MQv.end hx hb hr hlocks hP hS dX6_takeBack_24 h

def rmX6_deduce : Room := { frames := 5, cells := 0, slots := 0, locals := 119 }

theorem in_wsX6_deduce_X6 : ∀ w ∈ u_ws RX6 TX6 7, w ∈ wsX6_deduce := by decide +kernel

set_option maxHeartbeats 4000000 in
set_option maxRecDepth 100000 in
theorem kX6_deduce (l : Launch) (G : GT) (q : Nat → Nat) (C : St) (sz : Nat) (r : St) (h : pX6_deduce C = some r) : Met l yX6_deduce wsX6_deduce rmX6_deduce (va_Pc [.ref (q 0)] (wrP G (CW G q C) sz)) (va_Qv (fun u => u = r) (fun u t => va_P G.1 vwCl (CW G q u) t.heap) (va_A (CW G q C) sz)) 0 0 (va_A (CW G q C) sz) := by
  refine Met.ofW (cc := cX6_deduce) (maxL := 1) (ret := none) (by decide) rfl ?_
  intro p e s m args below meth c s₁ B hml hv
  obtain ⟨rfl, hsz, hP, hK, hD0⟩ := hv
  have bx := bx_of B hml
  subst hsz
  have hD := hD0.self (sz := s.heap.size)
  generalize hAe : va_A (CW G q C) s.heap.size = A at hD ⊢
  have hA : ∀ q : Nat, s.heap.size ≤ q → A q := fun q h => by rw [← hAe]; exact Or.inr h
  have hS : va_S A s.heap s.heap [] := va_S.rf
  obtain ⟨hx, hb, hr, hts, hown, hml, hlocks⟩ := id bx
  have hl := lv_entry ([.ref (q 0)]) (n := 1) (Nat.le_of_ble_eq_true rfl)
  rw [lg_entry_eq]
  generalize (lg_sl ([.ref (q 0)]) ++ List.replicate (1 - (lg_sl ([.ref (q 0)])).length) Slot.unset).toArray = ls at hl ⊢
  have hl : lv_has ls 1 [(0, .ref (q 0))] := hl
  show W p l e rmX6_deduce s m _ below meth c s.heap [] 0 0 (MQv G (CW G q) A s _ below r) (F0 m 0 ls [])
  unfold pX6_deduce at h
  refine lv_aload_n hx hb dX6_deduce_0 rfl (lv_at hl 0 rfl) ?_
  refine va_get (D := G.1) (ci := 5) (v := .ref (q 4)) (C := RX6) (T := TX6) (N := 7) hx hb hts in_wsX6_deduce_X6 hown hK.1 hP 0 rfl rfl 3 (by decide) (w_mem hts 1 rfl) (fun _ h9 => h9) rfl dX6_deduce_1 ?_
  refine lv_aload_n hx hb dX6_deduce_4 rfl (lv_at hl 0 rfl) ?_
  refine va_get (D := G.1) (ci := 5) (v := .ref (q 1)) (C := RX6) (T := TX6) (N := 7) hx hb hts in_wsX6_deduce_X6 hown hK.1 hP 0 rfl rfl 0 (by decide) (w_mem hts 2 rfl) (fun _ h9 => h9) rfl dX6_deduce_5 ?_
  refine lv_aload_n hx hb dX6_deduce_8 rfl (lv_at hl 0 rfl) ?_
  refine va_get (D := G.1) (ci := 5) (v := .ref (q 2)) (C := RX6) (T := TX6) (N := 7) hx hb hts in_wsX6_deduce_X6 hown hK.1 hP 0 rfl rfl 1 (by decide) (w_mem hts 3 rfl) (fun _ h9 => h9) rfl dX6_deduce_9 ?_
  refine lv_aload_n hx hb dX6_deduce_12 rfl (lv_at hl 0 rfl) ?_
  refine va_get (D := G.1) (ci := 5) (v := .int (C.1 0)) (C := RX6) (T := TX6) (N := 7) hx hb hts in_wsX6_deduce_X6 hown hK.1 hP 0 rfl rfl 5 (by decide) (w_mem hts 4 rfl) (fun _ h9 => h9) rfl dX6_deduce_13 ?_
  refine lv_aload_n hx hb dX6_deduce_16 rfl (lv_at hl 0 rfl) ?_
  refine va_get (D := G.1) (ci := 5) (v := .int (C.1 1)) (C := RX6) (T := TX6) (N := 7) hx hb hts in_wsX6_deduce_X6 hown hK.1 hP 0 rfl rfl 6 (by decide) (w_mem hts 5 rfl) (fun _ h9 => h9) rfl dX6_deduce_17 ?_
  obtain ⟨u_1, hu_1, h⟩ := bd_ex h
  refine wr_v (Wd := CW G q) (va_runVN (As := [.ref (q 1), .ref (q 2), .int (C.1 0), .int (C.1 1)]) (rest := []) ⟨hx, hb, hml, hown, hts⟩ (kX0_run l G q C _ (C.1 0) (C.1 1) u_1 hu_1) ⟨va_cnB 4 hts gX6_deduce_X0_run_n296 rfl rfl rfl (hK.2.nw 14 rfl) (w_mem hts 7 rfl) (by decide +kernel) ⟨Nat.le_of_ble_eq_true rfl, Nat.le_of_ble_eq_true rfl⟩, (w_mem hts 6 rfl), (w_mem hts 8 rfl)⟩ (wrV hP hD hK 0 4 rfl rfl) rfl rfl hl.1 rfl (lv_room (Nat.le_of_ble_eq_true rfl)) dX6_deduce_20 ⟨Nat.zero_le _, Nat.zero_le _⟩) hD hS hA (fun _ => rfl) (fun H locs hP hD hS => ?_)
  exact MQv.end hx hb hr hlocks hP hS dX6_deduce_23 h

def rmX6_countUnknown : Room := { frames := 6, cells := 0, slots := 0, locals := 139 }

theorem in_wsX6_countUnknown_X6 : ∀ w ∈ u_ws RX6 TX6 7, w ∈ wsX6_countUnknown := by decide +kernel

theorem in_wsX6_countUnknown_X5 : ∀ w ∈ u_ws RX5 TX5 6, w ∈ wsX6_countUnknown := by decide +kernel

theorem in_wsX6_countUnknown_X0 : ∀ w ∈ u_ws RX0 TX0 4, w ∈ wsX6_countUnknown := by decide +kernel

set_option maxHeartbeats 4000000 in
set_option maxRecDepth 100000 in
theorem kX6_countUnknown (l : Launch) (G : GT) (q : Nat → Nat) (C : St) (sz : Nat) (r : Int32 × St) (h : pX6_countUnknown C = some r) : Met l yX6_countUnknown wsX6_countUnknown rmX6_countUnknown (va_Pc [.ref (q 0)] (wrP G (CW G q C) sz)) (va_Qi (fun v u => (v, u) = r) (fun u t => va_P G.1 vwCl (CW G q u) t.heap) (va_A (CW G q C) sz)) 0 0 (va_A (CW G q C) sz) := by
  refine Met.ofW (cc := cX6_countUnknown) (maxL := 1) (ret := (some .int)) (by decide) rfl ?_
  intro p e s m args below meth c s₁ B hml hv
  obtain ⟨rfl, hsz, hP, hK, hD0⟩ := hv
  have bx := bx_of B hml
  subst hsz
  have hD := hD0.self (sz := s.heap.size)
  generalize hAe : va_A (CW G q C) s.heap.size = A at hD ⊢
  have hA : ∀ q : Nat, s.heap.size ≤ q → A q := fun q h => by rw [← hAe]; exact Or.inr h
  have hS : va_S A s.heap s.heap [] := va_S.rf
  obtain ⟨hx, hb, hr, hts, hown, hml, hlocks⟩ := id bx
  have hl := lv_entry ([.ref (q 0)]) (n := 1) (Nat.le_of_ble_eq_true rfl)
  rw [lg_entry_eq]
  generalize (lg_sl ([.ref (q 0)]) ++ List.replicate (1 - (lg_sl ([.ref (q 0)])).length) Slot.unset).toArray = ls at hl ⊢
  have hl : lv_has ls 1 [(0, .ref (q 0))] := hl
  show W p l e rmX6_countUnknown s m _ below meth c s.heap [] 0 0 (MQi G (CW G q) A s _ below r) (F0 m 0 ls [])
  unfold pX6_countUnknown at h
  refine lv_aload_n hx hb dX6_countUnknown_0 rfl (lv_at hl 0 rfl) ?_
  obtain ⟨u_1, hu_1, h⟩ := bd_ex h
  refine wr_v (Wd := CW G q) (va_runV (As := []) (rest := []) ⟨hx, hb, hml, hown, hts⟩ (kX6_deduce l G q C _ u_1 hu_1) (cwV 0 hts gX6_countUnknown_X6_deduce rfl rfl rfl (by decide +kernel) ⟨Nat.le_of_ble_eq_true rfl, Nat.le_of_ble_eq_true rfl⟩) (wrV hP hD hK 5 0 rfl rfl) rfl rfl hl.1 rfl (lv_room (Nat.le_of_ble_eq_true rfl)) dX6_countUnknown_1 ⟨Nat.zero_le _, Nat.zero_le _⟩) hD hS hA (fun _ => rfl) (fun H locs hP hD hS => ?_)
  refine lv_aload_n hx hb dX6_countUnknown_4 rfl (lv_at hl 0 rfl) ?_
  refine va_get (D := G.1) (ci := 5) (v := .ref (q 1)) (C := RX6) (T := TX6) (N := 7) hx hb hts in_wsX6_countUnknown_X6 hown hK.1 hP 0 rfl rfl 0 (by decide) (w_mem hts 1 rfl) (fun _ h9 => h9) rfl dX6_countUnknown_5 ?_
  refine va_getN (D := G.1) (ci := 4) (v := .int (u_1.1 3)) (C := RX5) (T := TX5) (N := 6) hx hb hts in_wsX6_countUnknown_X5 hown hK.1 hP 1 rfl rfl 5 (by decide) (hK.2.at 23 rfl) (fun _ h9 => h9) rfl dX6_countUnknown_8 ?_
  refine lv_aload_n hx hb dX6_countUnknown_11 rfl (lv_at hl 0 rfl) ?_
  refine va_get (D := G.1) (ci := 5) (v := .ref (q 4)) (C := RX6) (T := TX6) (N := 7) hx hb hts in_wsX6_countUnknown_X6 hown hK.1 hP 0 rfl rfl 3 (by decide) (w_mem hts 2 rfl) (fun _ h9 => h9) rfl dX6_countUnknown_12 ?_
  refine va_getN (D := G.1) (ci := 0) (v := .int (u_1.1 7)) (C := RX0) (T := TX0) (N := 4) hx hb hts in_wsX6_countUnknown_X0 hown hK.1 hP 4 rfl rfl 2 (by decide) (hK.2.at 30 rfl) (fun _ h9 => h9) rfl dX6_countUnknown_15 ?_
  refine lv_aload_n hx hb dX6_countUnknown_18 rfl (lv_at hl 0 rfl) ?_
  refine va_get (D := G.1) (ci := 5) (v := .ref (q 4)) (C := RX6) (T := TX6) (N := 7) hx hb hts in_wsX6_countUnknown_X6 hown hK.1 hP 0 rfl rfl 3 (by decide) (w_mem hts 2 rfl) (fun _ h9 => h9) rfl dX6_countUnknown_19 ?_
  refine va_getN (D := G.1) (ci := 0) (v := .int (u_1.1 8)) (C := RX0) (T := TX0) (N := 4) hx hb hts in_wsX6_countUnknown_X0 hown hK.1 hP 4 rfl rfl 3 (by decide) (hK.2.at 31 rfl) (fun _ h9 => h9) rfl dX6_countUnknown_22 ?_
  refine lv_ior hx hb dX6_countUnknown_25 ?_
  obtain ⟨r_2, hr_2, h⟩ := bd_ex h
  refine ro_i (va_runS (As := [.int ((u_1.1 7) ||| (u_1.1 8))]) (rest := [.int (u_1.1 3)]) ⟨hx, hb, hml, hown, hts⟩ (kJ6_bitCount_0f7a4 l ((u_1.1 7) ||| (u_1.1 8)) r_2 hr_2) (va_cwS 1 hts gX6_countUnknown_J6_bitCount_0f7a4 rfl rfl rfl (by decide +kernel) ⟨Nat.le_of_ble_eq_true rfl, Nat.le_of_ble_eq_true rfl⟩) noS rfl rfl hl.1 rfl (lv_room (Nat.le_of_ble_eq_true rfl)) dX6_countUnknown_26 ⟨Nat.zero_le _, Nat.zero_le _⟩) ?_
  refine lv_isub hx hb dX6_countUnknown_29 ?_
  exact MQi.end hx hb hr hlocks hP hS dX6_countUnknown_30 rfl h

def rmX6_retractAll : Room := { frames := 1, cells := 0, slots := 0, locals := 21 }

theorem in_wsX6_retractAll_X6 : ∀ w ∈ u_ws RX6 TX6 7, w ∈ wsX6_retractAll := by decide +kernel

set_option maxHeartbeats 4000000 in
set_option maxRecDepth 100000 in
theorem kX6_retractAll (l : Launch) (G : GT) (q : Nat → Nat) (C : St) (sz : Nat) (r : Int32 × St) (h : pX6_retractAll C = some r) : Met l yX6_retractAll wsX6_retractAll rmX6_retractAll (va_Pc [.ref (q 0)] (wrP G (CW G q C) sz)) (va_Qi (fun v u => (v, u) = r) (fun u t => va_P G.1 vwCl (CW G q u) t.heap) (va_A (CW G q C) sz)) 0 0 (va_A (CW G q C) sz) := by
  refine Met.ofW (cc := cX6_retractAll) (maxL := 2) (ret := (some .int)) (by decide) rfl ?_
  intro p e s m args below meth c s₁ B hml hv
  obtain ⟨rfl, hsz, hP, hK, hD0⟩ := hv
  have bx := bx_of B hml
  subst hsz
  have hD := hD0.self (sz := s.heap.size)
  generalize hAe : va_A (CW G q C) s.heap.size = A at hD ⊢
  have hA : ∀ q : Nat, s.heap.size ≤ q → A q := fun q h => by rw [← hAe]; exact Or.inr h
  have hS : va_S A s.heap s.heap [] := va_S.rf
  obtain ⟨hx, hb, hr, hts, hown, hml, hlocks⟩ := id bx
  have hl := lv_entry ([.ref (q 0)]) (n := 2) (Nat.le_of_ble_eq_true rfl)
  rw [lg_entry_eq]
  generalize (lg_sl ([.ref (q 0)]) ++ List.replicate (2 - (lg_sl ([.ref (q 0)])).length) Slot.unset).toArray = ls at hl ⊢
  have hl : lv_has ls 2 [(0, .ref (q 0))] := hl
  show W p l e rmX6_retractAll s m _ below meth c s.heap [] 0 0 (MQi G (CW G q) A s _ below r) (F0 m 0 ls [])
  unfold pX6_retractAll at h
  refine lv_aload_n hx hb dX6_retractAll_0 rfl (lv_at hl 0 rfl) ?_
  refine va_get (D := G.1) (ci := 5) (v := .int (C.1 0)) (C := RX6) (T := TX6) (N := 7) hx hb hts in_wsX6_retractAll_X6 hown hK.1 hP 0 rfl rfl 5 (by decide) (w_mem hts 1 rfl) (fun _ h9 => h9) rfl dX6_retractAll_1 ?_
  refine lv_aload_n hx hb dX6_retractAll_4 rfl (lv_at hl 0 rfl) ?_
  refine va_get (D := G.1) (ci := 5) (v := .int (C.1 1)) (C := RX6) (T := TX6) (N := 7) hx hb hts in_wsX6_retractAll_X6 hown hK.1 hP 0 rfl rfl 6 (by decide) (w_mem hts 2 rfl) (fun _ h9 => h9) rfl dX6_retractAll_5 ?_
  refine lv_ior hx hb dX6_retractAll_8 ?_
  refine lv_topi (fun v_1 ev_1 => ?_)
  have h := ltv_at h v_1 ev_1
  refine lv_istore_n (lv' := [(1, .int v_1), (0, .ref (q 0))]) hx hb dX6_retractAll_9 rfl hl (by decide) rfl (fun ls hl => ?_)
  refine lv_aload_n hx hb dX6_retractAll_10 rfl (lv_at hl 1 rfl) ?_
  refine lv_iload_n hx hb dX6_retractAll_11 rfl (lv_at hl 0 rfl) ?_
  obtain ⟨u_2, hu_2, h⟩ := bd_ex h
  refine wr_v (Wd := CW G q) (va_runV (As := [.int v_1]) (rest := []) ⟨hx, hb, hml, hown, hts⟩ (kX6_takeBack l G q C _ v_1 u_2 hu_2) (cwV 1 hts gX6_retractAll_X6_takeBack rfl rfl rfl (by decide +kernel) ⟨Nat.le_of_ble_eq_true rfl, Nat.le_of_ble_eq_true rfl⟩) (wrV hP hD hK 5 0 rfl rfl) rfl rfl hl.1 rfl (lv_room (Nat.le_of_ble_eq_true rfl)) dX6_retractAll_12 ⟨Nat.zero_le _, Nat.zero_le _⟩) hD hS hA (fun _ => rfl) (fun H locs hP hD hS => ?_)
  refine lv_iload_n hx hb dX6_retractAll_15 rfl (lv_at hl 0 rfl) ?_
  obtain ⟨r_3, hr_3, h⟩ := bd_ex h
  refine ro_i (va_runS (As := [.int v_1]) (rest := []) ⟨hx, hb, hml, hown, hts⟩ (kJ6_bitCount_0f7a4 l v_1 r_3 hr_3) (va_cwS 1 hts gX6_retractAll_J6_bitCount_0f7a4 rfl rfl rfl (by decide +kernel) ⟨Nat.le_of_ble_eq_true rfl, Nat.le_of_ble_eq_true rfl⟩) noS rfl rfl hl.1 rfl (lv_room (Nat.le_of_ble_eq_true rfl)) dX6_retractAll_16 ⟨Nat.zero_le _, Nat.zero_le _⟩) ?_
  exact MQi.end hx hb hr hlocks hP hS dX6_retractAll_19 rfl h

def rmX6_unknown : Room := { frames := 7, cells := 0, slots := 0, locals := 159 }

set_option maxHeartbeats 4000000 in
set_option maxRecDepth 100000 in
theorem kX6_unknown (l : Launch) (G : GT) (q : Nat → Nat) (C : St) (sz : Nat) (r : Int32 × St) (h : pX6_unknown C = some r) : Met l yX6_unknown wsX6_unknown rmX6_unknown (va_Pc [.ref (q 0)] (wrP G (CW G q C) sz)) (va_Qi (fun v u => (v, u) = r) (fun u t => va_P G.1 vwCl (CW G q u) t.heap) (va_A (CW G q C) sz)) 0 0 (va_A (CW G q C) sz) := by
  refine Met.ofW (cc := cX6_unknown) (maxL := 1) (ret := (some .int)) (by decide) rfl ?_
  intro p e s m args below meth c s₁ B hml hv
  obtain ⟨rfl, hsz, hP, hK, hD0⟩ := hv
  have bx := bx_of B hml
  subst hsz
  have hD := hD0.self (sz := s.heap.size)
  generalize hAe : va_A (CW G q C) s.heap.size = A at hD ⊢
  have hA : ∀ q : Nat, s.heap.size ≤ q → A q := fun q h => by rw [← hAe]; exact Or.inr h
  have hS : va_S A s.heap s.heap [] := va_S.rf
  obtain ⟨hx, hb, hr, hts, hown, hml, hlocks⟩ := id bx
  have hl := lv_entry ([.ref (q 0)]) (n := 1) (Nat.le_of_ble_eq_true rfl)
  rw [lg_entry_eq]
  generalize (lg_sl ([.ref (q 0)]) ++ List.replicate (1 - (lg_sl ([.ref (q 0)])).length) Slot.unset).toArray = ls at hl ⊢
  have hl : lv_has ls 1 [(0, .ref (q 0))] := hl
  show W p l e rmX6_unknown s m _ below meth c s.heap [] 0 0 (MQi G (CW G q) A s _ below r) (F0 m 0 ls [])
  unfold pX6_unknown at h
  refine lv_aload_n hx hb dX6_unknown_0 rfl (lv_at hl 0 rfl) ?_
  obtain ⟨u_1, hu_1, h⟩ := bd_ex h
  refine wr_i (Wd := CW G q) (va_runV (As := []) (rest := []) ⟨hx, hb, hml, hown, hts⟩ (kX6_countUnknown l G q C _ u_1 hu_1) (cwV 0 hts gX6_unknown_X6_countUnknown rfl rfl rfl (by decide +kernel) ⟨Nat.le_of_ble_eq_true rfl, Nat.le_of_ble_eq_true rfl⟩) (wrV hP hD hK 5 0 rfl rfl) rfl rfl hl.1 rfl (lv_room (Nat.le_of_ble_eq_true rfl)) dX6_unknown_1 ⟨Nat.zero_le _, Nat.zero_le _⟩) hD hS hA (fun _ => rfl) (fun H locs hP hD hS => ?_)
  exact MQi.end hx hb hr hlocks hP hS dX6_unknown_4 rfl h
