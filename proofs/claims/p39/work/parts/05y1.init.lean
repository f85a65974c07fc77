/-! ===== constructors ===== -/
theorem tyI {G : GT} {s : State} {cA : ClassId} (h : va_K G.1 vwCl (tyL G ++ [(cA, .int)]) s) : cA = G.2 0 := Option.some.inj ((h.2 2 (cA, .int) rfl).2.symm.trans (h.2 0 (G.2 0, .int) rfl).2)
theorem tyC {G : GT} {s : State} {cA : ClassId} (h : va_K G.1 vwCl (tyL G ++ [(cA, .char)]) s) : cA = G.2 1 := Option.some.inj ((h.2 2 (cA, .char) rfl).2.symm.trans (h.2 1 (G.2 1, .char) rfl).2)

theorem in_wsX5_init_X5 : ∀ w ∈ u_ws RX5 TX5 6, w ∈ wsX5_init := by decide +kernel
def rmX5_init : Room := { frames := 1, cells := 4, slots := 48, locals := 60 }
set_option maxHeartbeats 4000000 in
set_option maxRecDepth 100000 in
theorem kX5_init (l : Launch) (G : GT) (q : Nat) (sz : Nat) : Met l yX5_init wsX5_init rmX5_init (va_Pc [.ref q] (wrP G [(q, .inr (4, [.null, .null, .null, .null, .int 0, .int 0]))] sz)) (va_Qv (fun _ : Nat → Nat => True) (fun u t => va_P G.1 vwCl [(q, .inr (4, [.ref (u 0), .ref (u 1), .ref (u 2), .ref (u 3), .int 0, .int 1])), ((u 0), .inl (G.2 0, 12, .inl (upd zr 0 (-1)))), ((u 1), .inl (G.2 0, 12, .inl zr)), ((u 2), .inl (G.2 0, 12, .inl zr)), ((u 3), .inl (G.2 0, 12, .inl (upd zr 0 12)))] t.heap ∧ va_D (va_A [(q, .inr (4, [.null, .null, .null, .null, .int 0, .int 0]))] sz) [(q, .inr (4, [.ref (u 0), .ref (u 1), .ref (u 2), .ref (u 3), .int 0, .int 1])), ((u 0), .inl (G.2 0, 12, .inl (upd zr 0 (-1)))), ((u 1), .inl (G.2 0, 12, .inl zr)), ((u 2), .inl (G.2 0, 12, .inl zr)), ((u 3), .inl (G.2 0, 12, .inl (upd zr 0 12)))]) (va_A [(q, .inr (4, [.null, .null, .null, .null, .int 0, .int 0]))] sz)) 4 48 (va_A [(q, .inr (4, [.null, .null, .null, .null, .int 0, .int 0]))] sz) := by
  refine Met.ofW (cc := cX5_init) (maxL := 1) (ret := none) (by decide) rfl ?_
  intro p e s mt args below meth c s₁ B hml hv
  obtain ⟨rfl, hsz, hP, hK, hD0⟩ := hv
  have bx := bx_of B hml
  have hin : meth.name = "<init>" := (name_of_methodNamed B.named B.method).1
  subst hsz
  have hD := hD0.self (sz := s.heap.size)
  generalize hAe : va_A [(q, .inr (4, [.null, .null, .null, .null, .int 0, .int 0]))] s.heap.size = A at hD ⊢
  have hA : ∀ q : Nat, s.heap.size ≤ q → A q := fun q h => by rw [← hAe]; exact Or.inr h
  have hS : va_S A s.heap s.heap [] := va_S.rf
  obtain ⟨hx, hb, hr, hts, hown, hml, hlocks⟩ := id bx
  have hl := lv_entry ([.ref q]) (n := 1) (Nat.le_of_ble_eq_true rfl)
  rw [lg_entry_eq]
  generalize (lg_sl ([.ref q]) ++ List.replicate (1 - (lg_sl ([.ref q])).length) Slot.unset).toArray = ls at hl ⊢
  have hl : lv_has ls 1 [(0, .ref q)] := hl
  show W p l e rmX5_init s mt _ below meth c s.heap [] 0 0 _ (F0 mt 0 ls [])
  refine lv_aload_n hx hb dX5_init_0 rfl (lv_at hl 0 rfl) ?_
  refine W.objInit hx hb hown (w_mem hts 1 rfl) (w_mem hts 2 rfl) (w_mem hts 3 rfl) rfl (by rw [hml]; exact hl.1) rfl dX5_init_1 (Nat.le_of_ble_eq_true rfl) (Nat.le_of_ble_eq_true rfl) ?_
  refine W.eq (g2 := F0 mt 4 ls []) rfl ?_
  refine lv_aload_n hx hb dX5_init_4 rfl (lv_at hl 0 rfl) ?_
  refine lv_bipush (v := 12) hx hb dX5_init_5 (by decide) ?_
  refine va_newa (D := G.1) (atype := .int) hx hb (w_mem hts 4 rfl) rfl hK.1 hP hD hS hA (N' := 12) (a0 := (12, .inl zr)) (fun _ => rfl) (by decide) (by decide) (Nat.le_of_ble_eq_true rfl) (Nat.le_of_ble_eq_true rfl) (Nat.le_of_ble_eq_true rfl) dX5_init_7 (fun r0 cA H hK1 hP hD hS => ?_)
  have e9 := tyI hK1
  subst e9
  clear hK1
  have hP : va_P G.1 vwCl [(q, .inr (4, [.null, .null, .null, .null, .int 0, .int 0])), (r0, .inl (G.2 0, 12, .inl zr))] H := hP
  have hD : va_D A [(q, .inr (4, [.null, .null, .null, .null, .int 0, .int 0])), (r0, .inl (G.2 0, 12, .inl zr))] := hD
  refine W.widen (k := 1) (n := 12) (Nat.le_of_ble_eq_true rfl) (Nat.le_of_ble_eq_true rfl) ?_
  refine va_putF (D := G.1) (ci := 4) (v := .ref r0) (ty := (.array .int)) (C := RX5) (T := TX5) (N := 6) hx hb hts in_wsX5_init_X5 tyX5 tyX5_ok nmX5 hown hK.1 hP hD hS 0 rfl rfl 0 (by decide) (w_mem hts 5 rfl) (fun _ h9 => h9) rfl hin rfl (by decide +kernel) rfl rfl (Nat.le_of_ble_eq_true rfl) dX5_init_9 (fun H locs hP hD hS => ?_)
  have hP : va_P G.1 vwCl [(q, .inr (4, [.ref r0, .null, .null, .null, .int 0, .int 0])), (r0, .inl (G.2 0, 12, .inl zr))] H := hP
  have hD : va_D A [(q, .inr (4, [.ref r0, .null, .null, .null, .int 0, .int 0])), (r0, .inl (G.2 0, 12, .inl zr))] := hD
  refine lv_aload_n hx hb dX5_init_12 rfl (lv_at hl 0 rfl) ?_
  refine lv_bipush (v := 12) hx hb dX5_init_13 (by decide) ?_
  refine va_newa (D := G.1) (atype := .int) hx hb (w_mem hts 4 rfl) rfl hK.1 hP hD hS hA (N' := 12) (a0 := (12, .inl zr)) (fun _ => rfl) (by decide) (by decide) (Nat.le_of_ble_eq_true rfl) (Nat.le_of_ble_eq_true rfl) (Nat.le_of_ble_eq_true rfl) dX5_init_15 (fun r1 cA H hK1 hP hD hS => ?_)
  have e9 := tyI hK1
  subst e9
  clear hK1
  have hP : va_P G.1 vwCl [(q, .inr (4, [.ref r0, .null, .null, .null, .int 0, .int 0])), (r0, .inl (G.2 0, 12, .inl zr)), (r1, .inl (G.2 0, 12, .inl zr))] H := hP
  have hD : va_D A [(q, .inr (4, [.ref r0, .null, .null, .null, .int 0, .int 0])), (r0, .inl (G.2 0, 12, .inl zr)), (r1, .inl (G.2 0, 12, .inl zr))] := hD
  refine W.widen (k := 2) (n := 24) (Nat.le_of_ble_eq_true rfl) (Nat.le_of_ble_eq_true rfl) ?_
  refine va_putF (D := G.1) (ci := 4) (v := .ref r1) (ty := (.array .int)) (C := RX5) (T := TX5) (N := 6) hx hb hts in_wsX5_init_X5 tyX5 tyX5_ok nmX5 hown hK.1 hP hD hS 0 rfl rfl 1 (by decide) (w_mem hts 6 rfl) (fun _ h9 => h9) rfl hin rfl (by decide +kernel) rfl rfl (Nat.le_of_ble_eq_true rfl) dX5_init_17 (fun H locs hP hD hS => ?_)
  have hP : va_P G.1 vwCl [(q, .inr (4, [.ref r0, .ref r1, .null, .null, .int 0, .int 0])), (r0, .inl (G.2 0, 12, .inl zr)), (r1, .inl (G.2 0, 12, .inl zr))] H := hP
  have hD : va_D A [(q, .inr (4, [.ref r0, .ref r1, .null, .null, .int 0, .int 0])), (r0, .inl (G.2 0, 12, .inl zr)), (r1, .inl (G.2 0, 12, .inl zr))] := hD
  refine lv_aload_n hx hb dX5_init_20 rfl (lv_at hl 0 rfl) ?_
  refine lv_bipush (v := 12) hx hb dX5_init_21 (by decide) ?_
  refine va_newa (D := G.1) (atype := .int) hx hb (w_mem hts 4 rfl) rfl hK.1 hP hD hS hA (N' := 12) (a0 := (12, .inl zr)) (fun _ => rfl) (by decide) (by decide) (Nat.le_of_ble_eq_true rfl) (Nat.le_of_ble_eq_true rfl) (Nat.le_of_ble_eq_true rfl) dX5_init_23 (fun r2 cA H hK1 hP hD hS => ?_)
  have e9 := tyI hK1
  subst e9
  clear hK1
  have hP : va_P G.1 vwCl [(q, .inr (4, [.ref r0, .ref r1, .null, .null, .int 0, .int 0])), (r0, .inl (G.2 0, 12, .inl zr)), (r1, .inl (G.2 0, 12, .inl zr)), (r2, .inl (G.2 0, 12, .inl zr))] H := hP
  have hD : va_D A [(q, .inr (4, [.ref r0, .ref r1, .null, .null, .int 0, .int 0])), (r0, .inl (G.2 0, 12, .inl zr)), (r1, .inl (G.2 0, 12, .inl zr)), (r2, .inl (G.2 0, 12, .inl zr))] := hD
  refine W.widen (k := 3) (n := 36) (Nat.le_of_ble_eq_true rfl) (Nat.le_of_ble_eq_true rfl) ?_
  refine va_putF (D := G.1) (ci := 4) (v := .ref r2) (ty := (.array .int)) (C := RX5) (T := TX5) (N := 6) hx hb hts in_wsX5_init_X5 tyX5 tyX5_ok nmX5 hown hK.1 hP hD hS 0 rfl rfl 2 (by decide) (w_mem hts 7 rfl) (fun _ h9 => h9) rfl hin rfl (by decide +kernel) rfl rfl (Nat.le_of_ble_eq_true rfl) dX5_init_25 (fun H locs hP hD hS => ?_)
  have hP : va_P G.1 vwCl [(q, .inr (4, [.ref r0, .ref r1, .ref r2, .null, .int 0, .int 0])), (r0, .inl (G.2 0, 12, .inl zr)), (r1, .inl (G.2 0, 12, .inl zr)), (r2, .inl (G.2 0, 12, .inl zr))] H := hP
  have hD : va_D A [(q, .inr (4, [.ref r0, .ref r1, .ref r2, .null, .int 0, .int 0])), (r0, .inl (G.2 0, 12, .inl zr)), (r1, .inl (G.2 0, 12, .inl zr)), (r2, .inl (G.2 0, 12, .inl zr))] := hD
  refine lv_aload_n hx hb dX5_init_28 rfl (lv_at hl 0 rfl) ?_
  refine lv_bipush (v := 12) hx hb dX5_init_29 (by decide) ?_
  refine va_newa (D := G.1) (atype := .int) hx hb (w_mem hts 4 rfl) rfl hK.1 hP hD hS hA (N' := 12) (a0 := (12, .inl zr)) (fun _ => rfl) (by decide) (by decide) (Nat.le_of_ble_eq_true rfl) (Nat.le_of_ble_eq_true rfl) (Nat.le_of_ble_eq_true rfl) dX5_init_31 (fun r3 cA H hK1 hP hD hS => ?_)
  have e9 := tyI hK1
  subst e9
  clear hK1
  have hP : va_P G.1 vwCl [(q, .inr (4, [.ref r0, .ref r1, .ref r2, .null, .int 0, .int 0])), (r0, .inl (G.2 0, 12, .inl zr)), (r1, .inl (G.2 0, 12, .inl zr)), (r2, .inl (G.2 0, 12, .inl zr)), (r3, .inl (G.2 0, 12, .inl zr))] H := hP
  have hD : va_D A [(q, .inr (4, [.ref r0, .ref r1, .ref r2, .null, .int 0, .int 0])), (r0, .inl (G.2 0, 12, .inl zr)), (r1, .inl (G.2 0, 12, .inl zr)), (r2, .inl (G.2 0, 12, .inl zr)), (r3, .inl (G.2 0, 12, .inl zr))] := hD
  refine W.widen (k := 4) (n := 48) (Nat.le_of_ble_eq_true rfl) (Nat.le_of_ble_eq_true rfl) ?_
  refine va_putF (D := G.1) (ci := 4) (v := .ref r3) (ty := (.array .int)) (C := RX5) (T := TX5) (N := 6) hx hb hts in_wsX5_init_X5 tyX5 tyX5_ok nmX5 hown hK.1 hP hD hS 0 rfl rfl 3 (by decide) (w_mem hts 8 rfl) (fun _ h9 => h9) rfl hin rfl (by decide +kernel) rfl rfl (Nat.le_of_ble_eq_true rfl) dX5_init_33 (fun H locs hP hD hS => ?_)
  have hP : va_P G.1 vwCl [(q, .inr (4, [.ref r0, .ref r1, .ref r2, .ref r3, .int 0, .int 0])), (r0, .inl (G.2 0, 12, .inl zr)), (r1, .inl (G.2 0, 12, .inl zr)), (r2, .inl (G.2 0, 12, .inl zr)), (r3, .inl (G.2 0, 12, .inl zr))] H := hP
  have hD : va_D A [(q, .inr (4, [.ref r0, .ref r1, .ref r2, .ref r3, .int 0, .int 0])), (r0, .inl (G.2 0, 12, .inl zr)), (r1, .inl (G.2 0, 12, .inl zr)), (r2, .inl (G.2 0, 12, .inl zr)), (r3, .inl (G.2 0, 12, .inl zr))] := hD
  refine lv_aload_n hx hb dX5_init_36 rfl (lv_at hl 0 rfl) ?_
  refine va_get (D := G.1) (ci := 4) (v := .ref r0) (C := RX5) (T := TX5) (N := 6) hx hb hts in_wsX5_init_X5 hown hK.1 hP 0 rfl rfl 0 (by decide) (w_mem hts 5 rfl) (fun _ h9 => h9) rfl dX5_init_37 ?_
  refine lv_iconst (v := 0) hx hb dX5_init_40 (by decide) ?_
  refine lv_iconst (v := (-1)) hx hb dX5_init_41 (by decide) ?_
  refine va_iast (D := G.1) hx hb hK.1 hP hD hS 1 0 rfl rfl (by unfold vp_in; decide) dX5_init_42 (fun H locs hP hD hS => ?_)
  have hP : va_P G.1 vwCl [(q, .inr (4, [.ref r0, .ref r1, .ref r2, .ref r3, .int 0, .int 0])), (r0, .inl (G.2 0, 12, .inl (upd zr 0 (-1)))), (r1, .inl (G.2 0, 12, .inl zr)), (r2, .inl (G.2 0, 12, .inl zr)), (r3, .inl (G.2 0, 12, .inl zr))] H := hP
  have hD : va_D A [(q, .inr (4, [.ref r0, .ref r1, .ref r2, .ref r3, .int 0, .int 0])), (r0, .inl (G.2 0, 12, .inl (upd zr 0 (-1)))), (r1, .inl (G.2 0, 12, .inl zr)), (r2, .inl (G.2 0, 12, .inl zr)), (r3, .inl (G.2 0, 12, .inl zr))] := hD
  refine lv_aload_n hx hb dX5_init_43 rfl (lv_at hl 0 rfl) ?_
  refine va_get (D := G.1) (ci := 4) (v := .ref r3) (C := RX5) (T := TX5) (N := 6) hx hb hts in_wsX5_init_X5 hown hK.1 hP 0 rfl rfl 3 (by decide) (w_mem hts 8 rfl) (fun _ h9 => h9) rfl dX5_init_44 ?_
  refine lv_iconst (v := 0) hx hb dX5_init_47 (by decide) ?_
  refine lv_bipush (v := 12) hx hb dX5_init_48 (by decide) ?_
  refine va_iast (D := G.1) hx hb hK.1 hP hD hS 4 0 rfl rfl (by unfold vp_in; decide) dX5_init_50 (fun H locs hP hD hS => ?_)
  have hP : va_P G.1 vwCl [(q, .inr (4, [.ref r0, .ref r1, .ref r2, .ref r3, .int 0, .int 0])), (r0, .inl (G.2 0, 12, .inl (upd zr 0 (-1)))), (r1, .inl (G.2 0, 12, .inl zr)), (r2, .inl (G.2 0, 12, .inl zr)), (r3, .inl (G.2 0, 12, .inl (upd zr 0 12)))] H := hP
  have hD : va_D A [(q, .inr (4, [.ref r0, .ref r1, .ref r2, .ref r3, .int 0, .int 0])), (r0, .inl (G.2 0, 12, .inl (upd zr 0 (-1)))), (r1, .inl (G.2 0, 12, .inl zr)), (r2, .inl (G.2 0, 12, .inl zr)), (r3, .inl (G.2 0, 12, .inl (upd zr 0 12)))] := hD
  refine lv_aload_n hx hb dX5_init_51 rfl (lv_at hl 0 rfl) ?_
  refine lv_iconst (v := 1) hx hb dX5_init_52 (by decide) ?_
  refine va_put (D := G.1) (ci := 4) (v := .int 1) (ty := .int) (C := RX5) (T := TX5) (N := 6) hx hb hts in_wsX5_init_X5 tyX5 tyX5_ok nmX5 hown hK.1 hP hD hS 0 rfl rfl 5 (by decide) (w_mem hts 9 rfl) (fun _ h9 => h9) rfl (by decide +kernel) rfl rfl (Nat.le_of_ble_eq_true rfl) dX5_init_53 (fun H locs hP hD hS => ?_)
  have hP : va_P G.1 vwCl [(q, .inr (4, [.ref r0, .ref r1, .ref r2, .ref r3, .int 0, .int 1])), (r0, .inl (G.2 0, 12, .inl (upd zr 0 (-1)))), (r1, .inl (G.2 0, 12, .inl zr)), (r2, .inl (G.2 0, 12, .inl zr)), (r3, .inl (G.2 0, 12, .inl (upd zr 0 12)))] H := hP
  have hD : va_D A [(q, .inr (4, [.ref r0, .ref r1, .ref r2, .ref r3, .int 0, .int 1])), (r0, .inl (G.2 0, 12, .inl (upd zr 0 (-1)))), (r1, .inl (G.2 0, 12, .inl zr)), (r2, .inl (G.2 0, 12, .inl zr)), (r3, .inl (G.2 0, 12, .inl (upd zr 0 12)))] := hD
  exact W.vret hx hb hr (fun t ht _ => ⟨⟨(fun k => [r0, r1, r2, r3].getD k 0), rfl, trivial, by rw [ht]; exact hP, hD⟩, hS.F ht⟩) hS.2.2 dX5_init_56 hlocks

theorem in_wsX3_init_X3 : ∀ w ∈ u_ws RX3 TX3 5, w ∈ wsX3_init := by decide +kernel
def rmX3_init : Room := { frames := 1, cells := 3, slots := 60, locals := 60 }
set_option maxHeartbeats 4000000 in
set_option maxRecDepth 100000 in
theorem kX3_init (l : Launch) (G : GT) (q : Nat) (sz : Nat) : Met l yX3_init wsX3_init rmX3_init (va_Pc [.ref q] (wrP G [(q, .inr (3, [.null, .null, .null, .int 0, .int 0]))] sz)) (va_Qv (fun _ : Nat → Nat => True) (fun u t => va_P G.1 vwCl [(q, .inr (3, [.ref (u 0), .ref (u 1), .ref (u 2), .int 0, .int 0])), ((u 0), .inl (G.2 0, 20, .inl zr)), ((u 1), .inl (G.2 0, 20, .inl zr)), ((u 2), .inl (G.2 0, 20, .inl zr))] t.heap ∧ va_D (va_A [(q, .inr (3, [.null, .null, .null, .int 0, .int 0]))] sz) [(q, .inr (3, [.ref (u 0), .ref (u 1), .ref (u 2), .int 0, .int 0])), ((u 0), .inl (G.2 0, 20, .inl zr)), ((u 1), .inl (G.2 0, 20, .inl zr)), ((u 2), .inl (G.2 0, 20, .inl zr))]) (va_A [(q, .inr (3, [.null, .null, .null, .int 0, .int 0]))] sz)) 3 60 (va_A [(q, .inr (3, [.null, .null, .null, .int 0, .int 0]))] sz) := by
  refine Met.ofW (cc := cX3_init) (maxL := 1) (ret := none) (by decide) rfl ?_
  intro p e s mt args below meth c s₁ B hml hv
  obtain ⟨rfl, hsz, hP, hK, hD0⟩ := hv
  have bx := bx_of B hml
  have hin : meth.name = "<init>" := (name_of_methodNamed B.named B.method).1
  subst hsz
  have hD := hD0.self (sz := s.heap.size)
  generalize hAe : va_A [(q, .inr (3, [.null, .null, .null, .int 0, .int 0]))] s.heap.size = A at hD ⊢
  have hA : ∀ q : Nat, s.heap.size ≤ q → A q := fun q h => by rw [← hAe]; exact Or.inr h
  have hS : va_S A s.heap s.heap [] := va_S.rf
  obtain ⟨hx, hb, hr, hts, hown, hml, hlocks⟩ := id bx
  have hl := lv_entry ([.ref q]) (n := 1) (Nat.le_of_ble_eq_true rfl)
  rw [lg_entry_eq]
  generalize (lg_sl ([.ref q]) ++ List.replicate (1 - (lg_sl ([.ref q])).length) Slot.unset).toArray = ls at hl ⊢
  have hl : lv_has ls 1 [(0, .ref q)] := hl
  show W p l e rmX3_init s mt _ below meth c s.heap [] 0 0 _ (F0 mt 0 ls [])
  refine lv_aload_n hx hb dX3_init_0 rfl (lv_at hl 0 rfl) ?_
  refine W.objInit hx hb hown (w_mem hts 1 rfl) (w_mem hts 2 rfl) (w_mem hts 3 rfl) rfl (by rw [hml]; exact hl.1) rfl dX3_init_1 (Nat.le_of_ble_eq_true rfl) (Nat.le_of_ble_eq_true rfl) ?_
  refine W.eq (g2 := F0 mt 4 ls []) rfl ?_
  refine lv_aload_n hx hb dX3_init_4 rfl (lv_at hl 0 rfl) ?_
  refine lv_bipush (v := 20) hx hb dX3_init_5 (by decide) ?_
  refine va_newa (D := G.1) (atype := .int) hx hb (w_mem hts 4 rfl) rfl hK.1 hP hD hS hA (N' := 20) (a0 := (20, .inl zr)) (fun _ => rfl) (by decide) (by decide) (Nat.le_of_ble_eq_true rfl) (Nat.le_of_ble_eq_true rfl) (Nat.le_of_ble_eq_true rfl) dX3_init_7 (fun r0 cA H hK1 hP hD hS => ?_)
  have e9 := tyI hK1
  subst e9
  clear hK1
  have hP : va_P G.1 vwCl [(q, .inr (3, [.null, .null, .null, .int 0, .int 0])), (r0, .inl (G.2 0, 20, .inl zr))] H := hP
  have hD : va_D A [(q, .inr (3, [.null, .null, .null, .int 0, .int 0])), (r0, .inl (G.2 0, 20, .inl zr))] := hD
  refine W.widen (k := 1) (n := 20) (Nat.le_of_ble_eq_true rfl) (Nat.le_of_ble_eq_true rfl) ?_
  refine va_putF (D := G.1) (ci := 3) (v := .ref r0) (ty := (.array .int)) (C := RX3) (T := TX3) (N := 5) hx hb hts in_wsX3_init_X3 tyX3 tyX3_ok nmX3 hown hK.1 hP hD hS 0 rfl rfl 0 (by decide) (w_mem hts 5 rfl) (fun _ h9 => h9) rfl hin rfl (by decide +kernel) rfl rfl (Nat.le_of_ble_eq_true rfl) dX3_init_9 (fun H locs hP hD hS => ?_)
  have hP : va_P G.1 vwCl [(q, .inr (3, [.ref r0, .null, .null, .int 0, .int 0])), (r0, .inl (G.2 0, 20, .inl zr))] H := hP
  have hD : va_D A [(q, .inr (3, [.ref r0, .null, .null, .int 0, .int 0])), (r0, .inl (G.2 0, 20, .inl zr))] := hD
  refine lv_aload_n hx hb dX3_init_12 rfl (lv_at hl 0 rfl) ?_
  refine lv_bipush (v := 20) hx hb dX3_init_13 (by decide) ?_
  refine va_newa (D := G.1) (atype := .int) hx hb (w_mem hts 4 rfl) rfl hK.1 hP hD hS hA (N' := 20) (a0 := (20, .inl zr)) (fun _ => rfl) (by decide) (by decide) (Nat.le_of_ble_eq_true rfl) (Nat.le_of_ble_eq_true rfl) (Nat.le_of_ble_eq_true rfl) dX3_init_15 (fun r1 cA H hK1 hP hD hS => ?_)
  have e9 := tyI hK1
  subst e9
  clear hK1
  have hP : va_P G.1 vwCl [(q, .inr (3, [.ref r0, .null, .null, .int 0, .int 0])), (r0, .inl (G.2 0, 20, .inl zr)), (r1, .inl (G.2 0, 20, .inl zr))] H := hP
  have hD : va_D A [(q, .inr (3, [.ref r0, .null, .null, .int 0, .int 0])), (r0, .inl (G.2 0, 20, .inl zr)), (r1, .inl (G.2 0, 20, .inl zr))] := hD
  refine W.widen (k := 2) (n := 40) (Nat.le_of_ble_eq_true rfl) (Nat.le_of_ble_eq_true rfl) ?_
  refine va_putF (D := G.1) (ci := 3) (v := .ref r1) (ty := (.array .int)) (C := RX3) (T := TX3) (N := 5) hx hb hts in_wsX3_init_X3 tyX3 tyX3_ok nmX3 hown hK.1 hP hD hS 0 rfl rfl 1 (by decide) (w_mem hts 6 rfl) (fun _ h9 => h9) rfl hin rfl (by decide +kernel) rfl rfl (Nat.le_of_ble_eq_true rfl) dX3_init_17 (fun H locs hP hD hS => ?_)
  have hP : va_P G.1 vwCl [(q, .inr (3, [.ref r0, .ref r1, .null, .int 0, .int 0])), (r0, .inl (G.2 0, 20, .inl zr)), (r1, .inl (G.2 0, 20, .inl zr))] H := hP
  have hD : va_D A [(q, .inr (3, [.ref r0, .ref r1, .null, .int 0, .int 0])), (r0, .inl (G.2 0, 20, .inl zr)), (r1, .inl (G.2 0, 20, .inl zr))] := hD
  refine lv_aload_n hx hb dX3_init_20 rfl (lv_at hl 0 rfl) ?_
  refine lv_bipush (v := 20) hx hb dX3_init_21 (by decide) ?_
  refine va_newa (D := G.1) (atype := .int) hx hb (w_mem hts 4 rfl) rfl hK.1 hP hD hS hA (N' := 20) (a0 := (20, .inl zr)) (fun _ => rfl) (by decide) (by decide) (Nat.le_of_ble_eq_true rfl) (Nat.le_of_ble_eq_true rfl) (Nat.le_of_ble_eq_true rfl) dX3_init_23 (fun r2 cA H hK1 hP hD hS => ?_)
  have e9 := tyI hK1
  subst e9
  clear hK1
  have hP : va_P G.1 vwCl [(q, .inr (3, [.ref r0, .ref r1, .null, .int 0, .int 0])), (r0, .inl (G.2 0, 20, .inl zr)), (r1, .inl (G.2 0, 20, .inl zr)), (r2, .inl (G.2 0, 20, .inl zr))] H := hP
  have hD : va_D A [(q, .inr (3, [.ref r0, .ref r1, .null, .int 0, .int 0])), (r0, .inl (G.2 0, 20, .inl zr)), (r1, .inl (G.2 0, 20, .inl zr)), (r2, .inl (G.2 0, 20, .inl zr))] := hD
  refine W.widen (k := 3) (n := 60) (Nat.le_of_ble_eq_true rfl) (Nat.le_of_ble_eq_true rfl) ?_
  refine va_putF (D := G.1) (ci := 3) (v := .ref r2) (ty := (.array .int)) (C := RX3) (T := TX3) (N := 5) hx hb hts in_wsX3_init_X3 tyX3 tyX3_ok nmX3 hown hK.1 hP hD hS 0 rfl rfl 2 (by decide) (w_mem hts 7 rfl) (fun _ h9 => h9) rfl hin rfl (by decide +kernel) rfl rfl (Nat.le_of_ble_eq_true rfl) dX3_init_25 (fun H locs hP hD hS => ?_)
  have hP : va_P G.1 vwCl [(q, .inr (3, [.ref r0, .ref r1, .ref r2, .int 0, .int 0])), (r0, .inl (G.2 0, 20, .inl zr)), (r1, .inl (G.2 0, 20, .inl zr)), (r2, .inl (G.2 0, 20, .inl zr))] H := hP
  have hD : va_D A [(q, .inr (3, [.ref r0, .ref r1, .ref r2, .int 0, .int 0])), (r0, .inl (G.2 0, 20, .inl zr)), (r1, .inl (G.2 0, 20, .inl zr)), (r2, .inl (G.2 0, 20, .inl zr))] := hD
  exact W.vret hx hb hr (fun t ht _ => ⟨⟨(fun k => [r0, r1, r2].getD k 0), rfl, trivial, by rw [ht]; exact hP, hD⟩, hS.F ht⟩) hS.2.2 dX3_init_28 hlocks

theorem in_wsX2_init_X2 : ∀ w ∈ u_ws RX2 TX2 5, w ∈ wsX2_init := by decide +kernel
def rmX2_init : Room := { frames := 1, cells := 4, slots := 30, locals := 60 }
set_option maxHeartbeats 4000000 in
set_option maxRecDepth 100000 in
theorem kX2_init (l : Launch) (G : GT) (q : Nat) (sz : Nat) : Met l yX2_init wsX2_init rmX2_init (va_Pc [.ref q] (wrP G [(q, .inr (2, [.null, .null, .null, .null, .int 0]))] sz)) (va_Qv (fun _ : Nat → Nat => True) (fun u t => va_P G.1 vwCl [(q, .inr (2, [.ref (u 0), .ref (u 1), .ref (u 2), .ref (u 3), .int 0])), ((u 0), .inl (G.2 0, 12, .inl zr)), ((u 1), .inl (G.2 0, 6, .inl zr)), ((u 2), .inl (G.2 0, 6, .inl zr)), ((u 3), .inl (G.2 0, 6, .inl zr))] t.heap ∧ va_D (va_A [(q, .inr (2, [.null, .null, .null, .null, .int 0]))] sz) [(q, .inr (2, [.ref (u 0), .ref (u 1), .ref (u 2), .ref (u 3), .int 0])), ((u 0), .inl (G.2 0, 12, .inl zr)), ((u 1), .inl (G.2 0, 6, .inl zr)), ((u 2), .inl (G.2 0, 6, .inl zr)), ((u 3), .inl (G.2 0, 6, .inl zr))]) (va_A [(q, .inr (2, [.null, .null, .null, .null, .int 0]))] sz)) 4 30 (va_A [(q, .inr (2, [.null, .null, .null, .null, .int 0]))] sz) := by
  refine Met.ofW (cc := cX2_init) (maxL := 1) (ret := none) (by decide) rfl ?_
  intro p e s mt args below meth c s₁ B hml hv
  obtain ⟨rfl, hsz, hP, hK, hD0⟩ := hv
  have bx := bx_of B hml
  have hin : meth.name = "<init>" := (name_of_methodNamed B.named B.method).1
  subst hsz
  have hD := hD0.self (sz := s.heap.size)
  generalize hAe : va_A [(q, .inr (2, [.null, .null, .null, .null, .int 0]))] s.heap.size = A at hD ⊢
  have hA : ∀ q : Nat, s.heap.size ≤ q → A q := fun q h => by rw [← hAe]; exact Or.inr h
  have hS : va_S A s.heap s.heap [] := va_S.rf
  obtain ⟨hx, hb, hr, hts, hown, hml, hlocks⟩ := id bx
  have hl := lv_entry ([.ref q]) (n := 1) (Nat.le_of_ble_eq_true rfl)
  rw [lg_entry_eq]
  generalize (lg_sl ([.ref q]) ++ List.replicate (1 - (lg_sl ([.ref q])).length) Slot.unset).toArray = ls at hl ⊢
  have hl : lv_has ls 1 [(0, .ref q)] := hl
  show W p l e rmX2_init s mt _ below meth c s.heap [] 0 0 _ (F0 mt 0 ls [])
  refine lv_aload_n hx hb dX2_init_0 rfl (lv_at hl 0 rfl) ?_
  refine W.objInit hx hb hown (w_mem hts 1 rfl) (w_mem hts 2 rfl) (w_mem hts 3 rfl) rfl (by rw [hml]; exact hl.1) rfl dX2_init_1 (Nat.le_of_ble_eq_true rfl) (Nat.le_of_ble_eq_true rfl) ?_
  refine W.eq (g2 := F0 mt 4 ls []) rfl ?_
  refine lv_aload_n hx hb dX2_init_4 rfl (lv_at hl 0 rfl) ?_
  refine lv_bipush (v := 12) hx hb dX2_init_5 (by decide) ?_
  refine va_newa (D := G.1) (atype := .int) hx hb (w_mem hts 4 rfl) rfl hK.1 hP hD hS hA (N' := 12) (a0 := (12, .inl zr)) (fun _ => rfl) (by decide) (by decide) (Nat.le_of_ble_eq_true rfl) (Nat.le_of_ble_eq_true rfl) (Nat.le_of_ble_eq_true rfl) dX2_init_7 (fun r0 cA H hK1 hP hD hS => ?_)
  have e9 := tyI hK1
  subst e9
  clear hK1
  have hP : va_P G.1 vwCl [(q, .inr (2, [.null, .null, .null, .null, .int 0])), (r0, .inl (G.2 0, 12, .inl zr))] H := hP
  have hD : va_D A [(q, .inr (2, [.null, .null, .null, .null, .int 0])), (r0, .inl (G.2 0, 12, .inl zr))] := hD
  refine W.widen (k := 1) (n := 12) (Nat.le_of_ble_eq_true rfl) (Nat.le_of_ble_eq_true rfl) ?_
  refine va_putF (D := G.1) (ci := 2) (v := .ref r0) (ty := (.array .int)) (C := RX2) (T := TX2) (N := 5) hx hb hts in_wsX2_init_X2 tyX2 tyX2_ok nmX2 hown hK.1 hP hD hS 0 rfl rfl 0 (by decide) (w_mem hts 5 rfl) (fun _ h9 => h9) rfl hin rfl (by decide +kernel) rfl rfl (Nat.le_of_ble_eq_true rfl) dX2_init_9 (fun H locs hP hD hS => ?_)
  have hP : va_P G.1 vwCl [(q, .inr (2, [.ref r0, .null, .null, .null, .int 0])), (r0, .inl (G.2 0, 12, .inl zr))] H := hP
  have hD : va_D A [(q, .inr (2, [.ref r0, .null, .null, .null, .int 0])), (r0, .inl (G.2 0, 12, .inl zr))] := hD
  refine lv_aload_n hx hb dX2_init_12 rfl (lv_at hl 0 rfl) ?_
  refine lv_bipush (v := 6) hx hb dX2_init_13 (by decide) ?_
  refine va_newa (D := G.1) (atype := .int) hx hb (w_mem hts 4 rfl) rfl hK.1 hP hD hS hA (N' := 6) (a0 := (6, .inl zr)) (fun _ => rfl) (by decide) (by decide) (Nat.le_of_ble_eq_true rfl) (Nat.le_of_ble_eq_true rfl) (Nat.le_of_ble_eq_true rfl) dX2_init_15 (fun r1 cA H hK1 hP hD hS => ?_)
  have e9 := tyI hK1
  subst e9
  clear hK1
  have hP : va_P G.1 vwCl [(q, .inr (2, [.ref r0, .null, .null, .null, .int 0])), (r0, .inl (G.2 0, 12, .inl zr)), (r1, .inl (G.2 0, 6, .inl zr))] H := hP
  have hD : va_D A [(q, .inr (2, [.ref r0, .null, .null, .null, .int 0])), (r0, .inl (G.2 0, 12, .inl zr)), (r1, .inl (G.2 0, 6, .inl zr))] := hD
  refine W.widen (k := 2) (n := 18) (Nat.le_of_ble_eq_true rfl) (Nat.le_of_ble_eq_true rfl) ?_
  refine va_putF (D := G.1) (ci := 2) (v := .ref r1) (ty := (.array .int)) (C := RX2) (T := TX2) (N := 5) hx hb hts in_wsX2_init_X2 tyX2 tyX2_ok nmX2 hown hK.1 hP hD hS 0 rfl rfl 1 (by decide) (w_mem hts 6 rfl) (fun _ h9 => h9) rfl hin rfl (by decide +kernel) rfl rfl (Nat.le_of_ble_eq_true rfl) dX2_init_17 (fun H locs hP hD hS => ?_)
  have hP : va_P G.1 vwCl [(q, .inr (2, [.ref r0, .ref r1, .null, .null, .int 0])), (r0, .inl (G.2 0, 12, .inl zr)), (r1, .inl (G.2 0, 6, .inl zr))] H := hP
  have hD : va_D A [(q, .inr (2, [.ref r0, .ref r1, .null, .null, .int 0])), (r0, .inl (G.2 0, 12, .inl zr)), (r1, .inl (G.2 0, 6, .inl zr))] := hD
  refine lv_aload_n hx hb dX2_init_20 rfl (lv_at hl 0 rfl) ?_
  refine lv_bipush (v := 6) hx hb dX2_init_21 (by decide) ?_
  refine va_newa (D := G.1) (atype := .int) hx hb (w_mem hts 4 rfl) rfl hK.1 hP hD hS hA (N' := 6) (a0 := (6, .inl zr)) (fun _ => rfl) (by decide) (by decide) (Nat.le_of_ble_eq_true rfl) (Nat.le_of_ble_eq_true rfl) (Nat.le_of_ble_eq_true rfl) dX2_init_23 (fun r2 cA H hK1 hP hD hS => ?_)
  have e9 := tyI hK1
  subst e9
  clear hK1
  have hP : va_P G.1 vwCl [(q, .inr (2, [.ref r0, .ref r1, .null, .null, .int 0])), (r0, .inl (G.2 0, 12, .inl zr)), (r1, .inl (G.2 0, 6, .inl zr)), (r2, .inl (G.2 0, 6, .inl zr))] H := hP
  have hD : va_D A [(q, .inr (2, [.ref r0, .ref r1, .null, .null, .int 0])), (r0, .inl (G.2 0, 12, .inl zr)), (r1, .inl (G.2 0, 6, .inl zr)), (r2, .inl (G.2 0, 6, .inl zr))] := hD
  refine W.widen (k := 3) (n := 24) (Nat.le_of_ble_eq_true rfl) (Nat.le_of_ble_eq_true rfl) ?_
  refine va_putF (D := G.1) (ci := 2) (v := .ref r2) (ty := (.array .int)) (C := RX2) (T := TX2) (N := 5) hx hb hts in_wsX2_init_X2 tyX2 tyX2_ok nmX2 hown hK.1 hP hD hS 0 rfl rfl 2 (by decide) (w_mem hts 7 rfl) (fun _ h9 => h9) rfl hin rfl (by decide +kernel) rfl rfl (Nat.le_of_ble_eq_true rfl) dX2_init_25 (fun H locs hP hD hS => ?_)
  have hP : va_P G.1 vwCl [(q, .inr (2, [.ref r0, .ref r1, .ref r2, .null, .int 0])), (r0, .inl (G.2 0, 12, .inl zr)), (r1, .inl (G.2 0, 6, .inl zr)), (r2, .inl (G.2 0, 6, .inl zr))] H := hP
  have hD : va_D A [(q, .inr (2, [.ref r0, .ref r1, .ref r2, .null, .int 0])), (r0, .inl (G.2 0, 12, .inl zr)), (r1, .inl (G.2 0, 6, .inl zr)), (r2, .inl (G.2 0, 6, .inl zr))] := hD
  refine lv_aload_n hx hb dX2_init_28 rfl (lv_at hl 0 rfl) ?_
  refine lv_bipush (v := 6) hx hb dX2_init_29 (by decide) ?_
  refine va_newa (D := G.1) (atype := .int) hx hb (w_mem hts 4 rfl) rfl hK.1 hP hD hS hA (N' := 6) (a0 := (6, .inl zr)) (fun _ => rfl) (by decide) (by decide) (Nat.le_of_ble_eq_true rfl) (Nat.le_of_ble_eq_true rfl) (Nat.le_of_ble_eq_true rfl) dX2_init_31 (fun r3 cA H hK1 hP hD hS => ?_)
  have e9 := tyI hK1
  subst e9
  clear hK1
  have hP : va_P G.1 vwCl [(q, .inr (2, [.ref r0, .ref r1, .ref r2, .null, .int 0])), (r0, .inl (G.2 0, 12, .inl zr)), (r1, .inl (G.2 0, 6, .inl zr)), (r2, .inl (G.2 0, 6, .inl zr)), (r3, .inl (G.2 0, 6, .inl zr))] H := hP
  have hD : va_D A [(q, .inr (2, [.ref r0, .ref r1, .ref r2, .null, .int 0])), (r0, .inl (G.2 0, 12, .inl zr)), (r1, .inl (G.2 0, 6, .inl zr)), (r2, .inl (G.2 0, 6, .inl zr)), (r3, .inl (G.2 0, 6, .inl zr))] := hD
  refine W.widen (k := 4) (n := 30) (Nat.le_of_ble_eq_true rfl) (Nat.le_of_ble_eq_true rfl) ?_
  refine va_putF (D := G.1) (ci := 2) (v := .ref r3) (ty := (.array .int)) (C := RX2) (T := TX2) (N := 5) hx hb hts in_wsX2_init_X2 tyX2 tyX2_ok nmX2 hown hK.1 hP hD hS 0 rfl rfl 3 (by decide) (w_mem hts 8 rfl) (fun _ h9 => h9) rfl hin rfl (by decide +kernel) rfl rfl (Nat.le_of_ble_eq_true rfl) dX2_init_33 (fun H locs hP hD hS => ?_)
  have hP : va_P G.1 vwCl [(q, .inr (2, [.ref r0, .ref r1, .ref r2, .ref r3, .int 0])), (r0, .inl (G.2 0, 12, .inl zr)), (r1, .inl (G.2 0, 6, .inl zr)), (r2, .inl (G.2 0, 6, .inl zr)), (r3, .inl (G.2 0, 6, .inl zr))] H := hP
  have hD : va_D A [(q, .inr (2, [.ref r0, .ref r1, .ref r2, .ref r3, .int 0])), (r0, .inl (G.2 0, 12, .inl zr)), (r1, .inl (G.2 0, 6, .inl zr)), (r2, .inl (G.2 0, 6, .inl zr)), (r3, .inl (G.2 0, 6, .inl zr))] := hD
  exact W.vret hx hb hr (fun t ht _ => ⟨⟨(fun k => [r0, r1, r2, r3].getD k 0), rfl, trivial, by rw [ht]; exact hP, hD⟩, hS.F ht⟩) hS.2.2 dX2_init_36 hlocks

theorem in_wsX0_init_X0 : ∀ w ∈ u_ws RX0 TX0 4, w ∈ wsX0_init := by decide +kernel
def rmX0_init : Room := { frames := 1, cells := 2, slots := 24, locals := 60 }
set_option maxHeartbeats 4000000 in
set_option maxRecDepth 100000 in
theorem kX0_init (l : Launch) (G : GT) (q : Nat) (sz : Nat) : Met l yX0_init wsX0_init rmX0_init (va_Pc [.ref q] (wrP G [(q, .inr (0, [.null, .null, .int 0, .int 0]))] sz)) (va_Qv (fun _ : Nat → Nat => True) (fun u t => va_P G.1 vwCl [(q, .inr (0, [.ref (u 0), .ref (u 1), .int 0, .int 0])), ((u 0), .inl (G.2 1, 12, .inl zr)), ((u 1), .inl (G.2 0, 12, .inl zr))] t.heap ∧ va_D (va_A [(q, .inr (0, [.null, .null, .int 0, .int 0]))] sz) [(q, .inr (0, [.ref (u 0), .ref (u 1), .int 0, .int 0])), ((u 0), .inl (G.2 1, 12, .inl zr)), ((u 1), .inl (G.2 0, 12, .inl zr))]) (va_A [(q, .inr (0, [.null, .null, .int 0, .int 0]))] sz)) 2 24 (va_A [(q, .inr (0, [.null, .null, .int 0, .int 0]))] sz) := by
  refine Met.ofW (cc := cX0_init) (maxL := 1) (ret := none) (by decide) rfl ?_
  intro p e s mt args below meth c s₁ B hml hv
  obtain ⟨rfl, hsz, hP, hK, hD0⟩ := hv
  have bx := bx_of B hml
  have hin : meth.name = "<init>" := (name_of_methodNamed B.named B.method).1
  subst hsz
  have hD := hD0.self (sz := s.heap.size)
  generalize hAe : va_A [(q, .inr (0, [.null, .null, .int 0, .int 0]))] s.heap.size = A at hD ⊢
  have hA : ∀ q : Nat, s.heap.size ≤ q → A q := fun q h => by rw [← hAe]; exact Or.inr h
  have hS : va_S A s.heap s.heap [] := va_S.rf
  obtain ⟨hx, hb, hr, hts, hown, hml, hlocks⟩ := id bx
  have hl := lv_entry ([.ref q]) (n := 1) (Nat.le_of_ble_eq_true rfl)
  rw [lg_entry_eq]
  generalize (lg_sl ([.ref q]) ++ List.replicate (1 - (lg_sl ([.ref q])).length) Slot.unset).toArray = ls at hl ⊢
  have hl : lv_has ls 1 [(0, .ref q)] := hl
  show W p l e rmX0_init s mt _ below meth c s.heap [] 0 0 _ (F0 mt 0 ls [])
  refine lv_aload_n hx hb dX0_init_0 rfl (lv_at hl 0 rfl) ?_
  refine W.objInit hx hb hown (w_mem hts 1 rfl) (w_mem hts 2 rfl) (w_mem hts 3 rfl) rfl (by rw [hml]; exact hl.1) rfl dX0_init_1 (Nat.le_of_ble_eq_true rfl) (Nat.le_of_ble_eq_true rfl) ?_
  refine W.eq (g2 := F0 mt 4 ls []) rfl ?_
  refine lv_aload_n hx hb dX0_init_4 rfl (lv_at hl 0 rfl) ?_
  refine lv_bipush (v := 12) hx hb dX0_init_5 (by decide) ?_
  refine va_newa (D := G.1) (atype := .char) hx hb (w_mem hts 4 rfl) rfl hK.1 hP hD hS hA (N' := 12) (a0 := (12, .inl zr)) (fun _ => rfl) (by decide) (by decide) (Nat.le_of_ble_eq_true rfl) (Nat.le_of_ble_eq_true rfl) (Nat.le_of_ble_eq_true rfl) dX0_init_7 (fun r0 cA H hK1 hP hD hS => ?_)
  have e9 := tyC hK1
  subst e9
  clear hK1
  have hP : va_P G.1 vwCl [(q, .inr (0, [.null, .null, .int 0, .int 0])), (r0, .inl (G.2 1, 12, .inl zr))] H := hP
  have hD : va_D A [(q, .inr (0, [.null, .null, .int 0, .int 0])), (r0, .inl (G.2 1, 12, .inl zr))] := hD
  refine W.widen (k := 1) (n := 12) (Nat.le_of_ble_eq_true rfl) (Nat.le_of_ble_eq_true rfl) ?_
  refine va_putF (D := G.1) (ci := 0) (v := .ref r0) (ty := (.array .char)) (C := RX0) (T := TX0) (N := 4) hx hb hts in_wsX0_init_X0 tyX0 tyX0_ok nmX0 hown hK.1 hP hD hS 0 rfl rfl 0 (by decide) (w_mem hts 5 rfl) (fun _ h9 => h9) rfl hin rfl (by decide +kernel) rfl rfl (Nat.le_of_ble_eq_true rfl) dX0_init_9 (fun H locs hP hD hS => ?_)
  have hP : va_P G.1 vwCl [(q, .inr (0, [.ref r0, .null, .int 0, .int 0])), (r0, .inl (G.2 1, 12, .inl zr))] H := hP
  have hD : va_D A [(q, .inr (0, [.ref r0, .null, .int 0, .int 0])), (r0, .inl (G.2 1, 12, .inl zr))] := hD
  refine lv_aload_n hx hb dX0_init_12 rfl (lv_at hl 0 rfl) ?_
  refine lv_bipush (v := 12) hx hb dX0_init_13 (by decide) ?_
  refine va_newa (D := G.1) (atype := .int) hx hb (w_mem hts 6 rfl) rfl hK.1 hP hD hS hA (N' := 12) (a0 := (12, .inl zr)) (fun _ => rfl) (by decide) (by decide) (Nat.le_of_ble_eq_true rfl) (Nat.le_of_ble_eq_true rfl) (Nat.le_of_ble_eq_true rfl) dX0_init_15 (fun r1 cA H hK1 hP hD hS => ?_)
  have e9 := tyI hK1
  subst e9
  clear hK1
  have hP : va_P G.1 vwCl [(q, .inr (0, [.ref r0, .null, .int 0, .int 0])), (r0, .inl (G.2 1, 12, .inl zr)), (r1, .inl (G.2 0, 12, .inl zr))] H := hP
  have hD : va_D A [(q, .inr (0, [.ref r0, .null, .int 0, .int 0])), (r0, .inl (G.2 1, 12, .inl zr)), (r1, .inl (G.2 0, 12, .inl zr))] := hD
  refine W.widen (k := 2) (n := 24) (Nat.le_of_ble_eq_true rfl) (Nat.le_of_ble_eq_true rfl) ?_
  refine va_putF (D := G.1) (ci := 0) (v := .ref r1) (ty := (.array .int)) (C := RX0) (T := TX0) (N := 4) hx hb hts in_wsX0_init_X0 tyX0 tyX0_ok nmX0 hown hK.1 hP hD hS 0 rfl rfl 1 (by decide) (w_mem hts 7 rfl) (fun _ h9 => h9) rfl hin rfl (by decide +kernel) rfl rfl (Nat.le_of_ble_eq_true rfl) dX0_init_17 (fun H locs hP hD hS => ?_)
  have hP : va_P G.1 vwCl [(q, .inr (0, [.ref r0, .ref r1, .int 0, .int 0])), (r0, .inl (G.2 1, 12, .inl zr)), (r1, .inl (G.2 0, 12, .inl zr))] H := hP
  have hD : va_D A [(q, .inr (0, [.ref r0, .ref r1, .int 0, .int 0])), (r0, .inl (G.2 1, 12, .inl zr)), (r1, .inl (G.2 0, 12, .inl zr))] := hD
  exact W.vret hx hb hr (fun t ht _ => ⟨⟨(fun k => [r0, r1].getD k 0), rfl, trivial, by rw [ht]; exact hP, hD⟩, hS.F ht⟩) hS.2.2 dX0_init_20 hlocks

theorem in_wsX1_init_X1 : ∀ w ∈ u_ws RX1 TX1 2, w ∈ wsX1_init := by decide +kernel
def rmX1_init : Room := { frames := 1, cells := 1, slots := 64, locals := 60 }
set_option maxHeartbeats 4000000 in
set_option maxRecDepth 100000 in
theorem kX1_init (l : Launch) (G : GT) (q : Nat) (sz : Nat) : Met l yX1_init wsX1_init rmX1_init (va_Pc [.ref q] (wrP G [(q, .inr (1, [.null, .int 0]))] sz)) (va_Qv (fun _ : Nat → Nat => True) (fun u t => va_P G.1 vwCl [(q, .inr (1, [.ref (u 0), .int 0])), ((u 0), .inl (G.2 1, 64, .inl zr))] t.heap ∧ va_D (va_A [(q, .inr (1, [.null, .int 0]))] sz) [(q, .inr (1, [.ref (u 0), .int 0])), ((u 0), .inl (G.2 1, 64, .inl zr))]) (va_A [(q, .inr (1, [.null, .int 0]))] sz)) 1 64 (va_A [(q, .inr (1, [.null, .int 0]))] sz) := by
  refine Met.ofW (cc := cX1_init) (maxL := 1) (ret := none) (by decide) rfl ?_
  intro p e s mt args below meth c s₁ B hml hv
  obtain ⟨rfl, hsz, hP, hK, hD0⟩ := hv
  have bx := bx_of B hml
  have hin : meth.name = "<init>" := (name_of_methodNamed B.named B.method).1
  subst hsz
  have hD := hD0.self (sz := s.heap.size)
  generalize hAe : va_A [(q, .inr (1, [.null, .int 0]))] s.heap.size = A at hD ⊢
  have hA : ∀ q : Nat, s.heap.size ≤ q → A q := fun q h => by rw [← hAe]; exact Or.inr h
  have hS : va_S A s.heap s.heap [] := va_S.rf
  obtain ⟨hx, hb, hr, hts, hown, hml, hlocks⟩ := id bx
  have hl := lv_entry ([.ref q]) (n := 1) (Nat.le_of_ble_eq_true rfl)
  rw [lg_entry_eq]
  generalize (lg_sl ([.ref q]) ++ List.replicate (1 - (lg_sl ([.ref q])).length) Slot.unset).toArray = ls at hl ⊢
  have hl : lv_has ls 1 [(0, .ref q)] := hl
  show W p l e rmX1_init s mt _ below meth c s.heap [] 0 0 _ (F0 mt 0 ls [])
  refine lv_aload_n hx hb dX1_init_0 rfl (lv_at hl 0 rfl) ?_
  refine W.objInit hx hb hown (w_mem hts 1 rfl) (w_mem hts 2 rfl) (w_mem hts 3 rfl) rfl (by rw [hml]; exact hl.1) rfl dX1_init_1 (Nat.le_of_ble_eq_true rfl) (Nat.le_of_ble_eq_true rfl) ?_
  refine W.eq (g2 := F0 mt 4 ls []) rfl ?_
  refine lv_aload_n hx hb dX1_init_4 rfl (lv_at hl 0 rfl) ?_
  refine lv_bipush (v := 64) hx hb dX1_init_5 (by decide) ?_
  refine va_newa (D := G.1) (atype := .char) hx hb (w_mem hts 4 rfl) rfl hK.1 hP hD hS hA (N' := 64) (a0 := (64, .inl zr)) (fun _ => rfl) (by decide) (by decide) (Nat.le_of_ble_eq_true rfl) (Nat.le_of_ble_eq_true rfl) (Nat.le_of_ble_eq_true rfl) dX1_init_7 (fun r0 cA H hK1 hP hD hS => ?_)
  have e9 := tyC hK1
  subst e9
  clear hK1
  have hP : va_P G.1 vwCl [(q, .inr (1, [.null, .int 0])), (r0, .inl (G.2 1, 64, .inl zr))] H := hP
  have hD : va_D A [(q, .inr (1, [.null, .int 0])), (r0, .inl (G.2 1, 64, .inl zr))] := hD
  refine W.widen (k := 1) (n := 64) (Nat.le_of_ble_eq_true rfl) (Nat.le_of_ble_eq_true rfl) ?_
  refine va_putF (D := G.1) (ci := 1) (v := .ref r0) (ty := (.array .char)) (C := RX1) (T := TX1) (N := 2) hx hb hts in_wsX1_init_X1 tyX1 tyX1_ok nmX1 hown hK.1 hP hD hS 0 rfl rfl 0 (by decide) (w_mem hts 5 rfl) (fun _ h9 => h9) rfl hin rfl (by decide +kernel) rfl rfl (Nat.le_of_ble_eq_true rfl) dX1_init_9 (fun H locs hP hD hS => ?_)
  have hP : va_P G.1 vwCl [(q, .inr (1, [.ref r0, .int 0])), (r0, .inl (G.2 1, 64, .inl zr))] H := hP
  have hD : va_D A [(q, .inr (1, [.ref r0, .int 0])), (r0, .inl (G.2 1, 64, .inl zr))] := hD
  exact W.vret hx hb hr (fun t ht _ => ⟨⟨(fun k => [r0].getD k 0), rfl, trivial, by rw [ht]; exact hP, hD⟩, hS.F ht⟩) hS.2.2 dX1_init_12 hlocks


theorem in_wsX6_init_X6 : ∀ w ∈ u_ws RX6 TX6 7, w ∈ wsX6_init := by decide +kernel
theorem in_wsX6_init_X5 : ∀ w ∈ u_ws RX5 TX5 6, w ∈ wsX6_init := by decide +kernel
theorem in_wsX6_init_X3 : ∀ w ∈ u_ws RX3 TX3 5, w ∈ wsX6_init := by decide +kernel
theorem in_wsX6_init_X2 : ∀ w ∈ u_ws RX2 TX2 5, w ∈ wsX6_init := by decide +kernel
theorem in_wsX6_init_X0 : ∀ w ∈ u_ws RX0 TX0 4, w ∈ wsX6_init := by decide +kernel
theorem in_wsX6_init_X1 : ∀ w ∈ u_ws RX1 TX1 2, w ∈ wsX6_init := by decide +kernel
def rmX6_init : Room := { frames := 2, cells := 19, slots := 248, locals := 80 }
set_option maxHeartbeats 4000000 in
set_option maxRecDepth 100000 in
theorem kX6_init (l : Launch) (G : GT) (q : Nat) (sz : Nat) : Met l yX6_init wsX6_init rmX6_init (va_Pc [.ref q] (wrP G [(q, .inr (5, [.null, .null, .null, .null, .null, .int 0, .int 0]))] sz)) (va_Qv (fun u : Nat → Nat => u 0 = q) (fun u t => va_P G.1 vwCl (CW G u C0) t.heap ∧ va_D (va_A [(q, .inr (5, [.null, .null, .null, .null, .null, .int 0, .int 0]))] sz) (CW G u C0)) (va_A [(q, .inr (5, [.null, .null, .null, .null, .null, .int 0, .int 0]))] sz)) 19 248 (va_A [(q, .inr (5, [.null, .null, .null, .null, .null, .int 0, .int 0]))] sz) := by
  refine Met.ofW (cc := cX6_init) (maxL := 1) (ret := none) (by decide) rfl ?_
  intro p e s mt args below meth c s₁ B hml hv
  obtain ⟨rfl, hsz, hP, hK, hD0⟩ := hv
  have bx := bx_of B hml
  have hin : meth.name = "<init>" := (name_of_methodNamed B.named B.method).1
  subst hsz
  have hD := hD0.self (sz := s.heap.size)
  generalize hAe : va_A [(q, .inr (5, [.null, .null, .null, .null, .null, .int 0, .int 0]))] s.heap.size = A at hD ⊢
  have hA : ∀ q : Nat, s.heap.size ≤ q → A q := fun q h => by rw [← hAe]; exact Or.inr h
  have hS : va_S A s.heap s.heap [] := va_S.rf
  obtain ⟨hx, hb, hr, hts, hown, hml, hlocks⟩ := id bx
  have hl := lv_entry ([.ref q]) (n := 1) (Nat.le_of_ble_eq_true rfl)
  rw [lg_entry_eq]
  generalize (lg_sl ([.ref q]) ++ List.replicate (1 - (lg_sl ([.ref q])).length) Slot.unset).toArray = ls at hl ⊢
  have hl : lv_has ls 1 [(0, .ref q)] := hl
  show W p l e rmX6_init s mt _ below meth c s.heap [] 0 0 _ (F0 mt 0 ls [])
  refine lv_aload_n hx hb dX6_init_0 rfl (lv_at hl 0 rfl) ?_
  refine W.objInit hx hb hown (w_mem hts 1 rfl) (w_mem hts 2 rfl) (w_mem hts 3 rfl) rfl (by rw [hml]; exact hl.1) rfl dX6_init_1 (Nat.le_of_ble_eq_true rfl) (Nat.le_of_ble_eq_true rfl) ?_
  refine W.eq (g2 := F0 mt 4 ls []) rfl ?_
  refine lv_aload_n hx hb dX6_init_4 rfl (lv_at hl 0 rfl) ?_
  refine va_new (D := G.1) (ci := 4) (fs := [.null, .null, .null, .null, .int 0, .int 0]) (C := RX5) (T := TX5) (N := 6) hx hb hts in_wsX6_init_X5 tyX5 tyX5_ok hown (w_mem hts 4 rfl) (w_mem hts 5 rfl) (w_mem hts 6 rfl) hK.1 hP hD hS hA rfl (fun j hj => by rcases (show j = 0 ∨ j = 1 ∨ j = 2 ∨ j = 3 ∨ j = 4 ∨ j = 5 by omega) with rfl | rfl | rfl | rfl | rfl | rfl <;> rfl) (Nat.le_of_ble_eq_true rfl) (Nat.le_of_ble_eq_true rfl) dX6_init_5 (fun pX5 H hP hD hS => ?_)
  have hP : va_P G.1 vwCl [(q, .inr (5, [.null, .null, .null, .null, .null, .int 0, .int 0])), (pX5, .inr (4, [.null, .null, .null, .null, .int 0, .int 0]))] H := hP
  have hD : va_D A [(q, .inr (5, [.null, .null, .null, .null, .null, .int 0, .int 0])), (pX5, .inr (4, [.null, .null, .null, .null, .int 0, .int 0]))] := hD
  refine W.widen (k := 1) (n := 6) (Nat.le_of_ble_eq_true rfl) (Nat.le_of_ble_eq_true rfl) ?_
  refine lv_dup hx hb dX6_init_8 rfl ?_
  refine j_v (Wd := fun u : Nat → Nat => [(pX5, .inr (4, [.ref (u 0), .ref (u 1), .ref (u 2), .ref (u 3), .int 0, .int 1])), ((u 0), .inl (G.2 0, 12, .inl (upd zr 0 (-1)))), ((u 1), .inl (G.2 0, 12, .inl zr)), ((u 2), .inl (G.2 0, 12, .inl zr)), ((u 3), .inl (G.2 0, 12, .inl (upd zr 0 12)))]) (wc := [(pX5, .inr (4, [.null, .null, .null, .null, .int 0, .int 0]))]) (wr := [(q, .inr (5, [.null, .null, .null, .null, .null, .int 0, .int 0]))]) (va_runIN (As := []) (rest := [.ref pX5, .ref q]) ⟨hx, hb, hml, hown, hts⟩ (kX5_init l G pX5 _) ⟨va_cnB 0 hts gX6_init_X5_init_n9 rfl rfl rfl (hK.2.nw 0 rfl) (w_mem hts 6 rfl) (by decide +kernel) ⟨Nat.le_of_ble_eq_true rfl, Nat.le_of_ble_eq_true rfl⟩, rfl, (w_mem hts 24 rfl)⟩ (wrS (hP.sub (ws' := [(pX5, .inr (4, [.null, .null, .null, .null, .int 0, .int 0]))]) [1] rfl) (hD.sub (ws' := [(pX5, .inr (4, [.null, .null, .null, .null, .int 0, .int 0]))]) [1] (by decide) rfl) hK) rfl rfl hl.1 rfl (lv_room (Nat.le_of_ble_eq_true rfl)) dX6_init_9 ⟨Nat.le_of_ble_eq_true rfl, Nat.le_of_ble_eq_true rfl⟩) hP hD hS hA [1] [0] rfl rfl (by decide) (by decide) (fun uX5 H locs _ hP hD hS => ?_)
  have hP : va_P G.1 vwCl [(q, .inr (5, [.null, .null, .null, .null, .null, .int 0, .int 0])), (pX5, .inr (4, [.ref (uX5 0), .ref (uX5 1), .ref (uX5 2), .ref (uX5 3), .int 0, .int 1])), ((uX5 0), .inl (G.2 0, 12, .inl (upd zr 0 (-1)))), ((uX5 1), .inl (G.2 0, 12, .inl zr)), ((uX5 2), .inl (G.2 0, 12, .inl zr)), ((uX5 3), .inl (G.2 0, 12, .inl (upd zr 0 12)))] H := hP
  have hD : va_D A [(q, .inr (5, [.null, .null, .null, .null, .null, .int 0, .int 0])), (pX5, .inr (4, [.ref (uX5 0), .ref (uX5 1), .ref (uX5 2), .ref (uX5 3), .int 0, .int 1])), ((uX5 0), .inl (G.2 0, 12, .inl (upd zr 0 (-1)))), ((uX5 1), .inl (G.2 0, 12, .inl zr)), ((uX5 2), .inl (G.2 0, 12, .inl zr)), ((uX5 3), .inl (G.2 0, 12, .inl (upd zr 0 12)))] := hD
  refine W.widen (k := 5) (n := 54) (Nat.le_of_ble_eq_true rfl) (Nat.le_of_ble_eq_true rfl) ?_
  refine va_putF (D := G.1) (ci := 5) (v := .ref pX5) (ty := (.object "TreeConfigurator$Tree")) (C := RX6) (T := TX6) (N := 7) hx hb hts in_wsX6_init_X6 tyX6 tyX6_ok nmX6 hown hK.1 hP hD hS 0 rfl rfl 0 (by decide) (w_mem hts 7 rfl) (fun _ h9 => h9) rfl hin rfl (by decide +kernel) rfl rfl (Nat.le_of_ble_eq_true rfl) dX6_init_12 (fun H locs hP hD hS => ?_)
  have hP : va_P G.1 vwCl [(q, .inr (5, [.ref pX5, .null, .null, .null, .null, .int 0, .int 0])), (pX5, .inr (4, [.ref (uX5 0), .ref (uX5 1), .ref (uX5 2), .ref (uX5 3), .int 0, .int 1])), ((uX5 0), .inl (G.2 0, 12, .inl (upd zr 0 (-1)))), ((uX5 1), .inl (G.2 0, 12, .inl zr)), ((uX5 2), .inl (G.2 0, 12, .inl zr)), ((uX5 3), .inl (G.2 0, 12, .inl (upd zr 0 12)))] H := hP
  have hD : va_D A [(q, .inr (5, [.ref pX5, .null, .null, .null, .null, .int 0, .int 0])), (pX5, .inr (4, [.ref (uX5 0), .ref (uX5 1), .ref (uX5 2), .ref (uX5 3), .int 0, .int 1])), ((uX5 0), .inl (G.2 0, 12, .inl (upd zr 0 (-1)))), ((uX5 1), .inl (G.2 0, 12, .inl zr)), ((uX5 2), .inl (G.2 0, 12, .inl zr)), ((uX5 3), .inl (G.2 0, 12, .inl (upd zr 0 12)))] := hD
  refine lv_aload_n hx hb dX6_init_15 rfl (lv_at hl 0 rfl) ?_
  refine va_new (D := G.1) (ci := 3) (fs := [.null, .null, .null, .int 0, .int 0]) (C := RX3) (T := TX3) (N := 5) hx hb hts in_wsX6_init_X3 tyX3 tyX3_ok hown (w_mem hts 8 rfl) (w_mem hts 9 rfl) (w_mem hts 10 rfl) hK.1 hP hD hS hA rfl (fun j hj => by rcases (show j = 0 ∨ j = 1 ∨ j = 2 ∨ j = 3 ∨ j = 4 by omega) with rfl | rfl | rfl | rfl | rfl <;> rfl) (Nat.le_of_ble_eq_true rfl) (Nat.le_of_ble_eq_true rfl) dX6_init_16 (fun pX3 H hP hD hS => ?_)
  have hP : va_P G.1 vwCl [(q, .inr (5, [.ref pX5, .null, .null, .null, .null, .int 0, .int 0])), (pX5, .inr (4, [.ref (uX5 0), .ref (uX5 1), .ref (uX5 2), .ref (uX5 3), .int 0, .int 1])), ((uX5 0), .inl (G.2 0, 12, .inl (upd zr 0 (-1)))), ((uX5 1), .inl (G.2 0, 12, .inl zr)), ((uX5 2), .inl (G.2 0, 12, .inl zr)), ((uX5 3), .inl (G.2 0, 12, .inl (upd zr 0 12))), (pX3, .inr (3, [.null, .null, .null, .int 0, .int 0]))] H := hP
  have hD : va_D A [(q, .inr (5, [.ref pX5, .null, .null, .null, .null, .int 0, .int 0])), (pX5, .inr (4, [.ref (uX5 0), .ref (uX5 1), .ref (uX5 2), .ref (uX5 3), .int 0, .int 1])), ((uX5 0), .inl (G.2 0, 12, .inl (upd zr 0 (-1)))), ((uX5 1), .inl (G.2 0, 12, .inl zr)), ((uX5 2), .inl (G.2 0, 12, .inl zr)), ((uX5 3), .inl (G.2 0, 12, .inl (upd zr 0 12))), (pX3, .inr (3, [.null, .null, .null, .int 0, .int 0]))] := hD
  refine W.widen (k := 6) (n := 59) (Nat.le_of_ble_eq_true rfl) (Nat.le_of_ble_eq_true rfl) ?_
  refine lv_dup hx hb dX6_init_19 rfl ?_
  refine j_v (Wd := fun u : Nat → Nat => [(pX3, .inr (3, [.ref (u 0), .ref (u 1), .ref (u 2), .int 0, .int 0])), ((u 0), .inl (G.2 0, 20, .inl zr)), ((u 1), .inl (G.2 0, 20, .inl zr)), ((u 2), .inl (G.2 0, 20, .inl zr))]) (wc := [(pX3, .inr (3, [.null, .null, .null, .int 0, .int 0]))]) (wr := [(q, .inr (5, [.ref pX5, .null, .null, .null, .null, .int 0, .int 0])), (pX5, .inr (4, [.ref (uX5 0), .ref (uX5 1), .ref (uX5 2), .ref (uX5 3), .int 0, .int 1])), ((uX5 0), .inl (G.2 0, 12, .inl (upd zr 0 (-1)))), ((uX5 1), .inl (G.2 0, 12, .inl zr)), ((uX5 2), .inl (G.2 0, 12, .inl zr)), ((uX5 3), .inl (G.2 0, 12, .inl (upd zr 0 12)))]) (va_runIN (As := []) (rest := [.ref pX3, .ref q]) ⟨hx, hb, hml, hown, hts⟩ (kX3_init l G pX3 _) ⟨va_cnB 0 hts gX6_init_X3_init_n18 rfl rfl rfl (hK.2.nw 1 rfl) (w_mem hts 10 rfl) (by decide +kernel) ⟨Nat.le_of_ble_eq_true rfl, Nat.le_of_ble_eq_true rfl⟩, rfl, (w_mem hts 33 rfl)⟩ (wrS (hP.sub (ws' := [(pX3, .inr (3, [.null, .null, .null, .int 0, .int 0]))]) [6] rfl) (hD.sub (ws' := [(pX3, .inr (3, [.null, .null, .null, .int 0, .int 0]))]) [6] (by decide) rfl) hK) rfl rfl hl.1 rfl (lv_room (Nat.le_of_ble_eq_true rfl)) dX6_init_20 ⟨Nat.le_of_ble_eq_true rfl, Nat.le_of_ble_eq_true rfl⟩) hP hD hS hA [6] [0, 1, 2, 3, 4, 5] rfl rfl (by decide) (by decide) (fun uX3 H locs _ hP hD hS => ?_)
  have hP : va_P G.1 vwCl [(q, .inr (5, [.ref pX5, .null, .null, .null, .null, .int 0, .int 0])), (pX5, .inr (4, [.ref (uX5 0), .ref (uX5 1), .ref (uX5 2), .ref (uX5 3), .int 0, .int 1])), ((uX5 0), .inl (G.2 0, 12, .inl (upd zr 0 (-1)))), ((uX5 1), .inl (G.2 0, 12, .inl zr)), ((uX5 2), .inl (G.2 0, 12, .inl zr)), ((uX5 3), .inl (G.2 0, 12, .inl (upd zr 0 12))), (pX3, .inr (3, [.ref (uX3 0), .ref (uX3 1), .ref (uX3 2), .int 0, .int 0])), ((uX3 0), .inl (G.2 0, 20, .inl zr)), ((uX3 1), .inl (G.2 0, 20, .inl zr)), ((uX3 2), .inl (G.2 0, 20, .inl zr))] H := hP
  have hD : va_D A [(q, .inr (5, [.ref pX5, .null, .null, .null, .null, .int 0, .int 0])), (pX5, .inr (4, [.ref (uX5 0), .ref (uX5 1), .ref (uX5 2), .ref (uX5 3), .int 0, .int 1])), ((uX5 0), .inl (G.2 0, 12, .inl (upd zr 0 (-1)))), ((uX5 1), .inl (G.2 0, 12, .inl zr)), ((uX5 2), .inl (G.2 0, 12, .inl zr)), ((uX5 3), .inl (G.2 0, 12, .inl (upd zr 0 12))), (pX3, .inr (3, [.ref (uX3 0), .ref (uX3 1), .ref (uX3 2), .int 0, .int 0])), ((uX3 0), .inl (G.2 0, 20, .inl zr)), ((uX3 1), .inl (G.2 0, 20, .inl zr)), ((uX3 2), .inl (G.2 0, 20, .inl zr))] := hD
  refine W.widen (k := 9) (n := 119) (Nat.le_of_ble_eq_true rfl) (Nat.le_of_ble_eq_true rfl) ?_
  refine va_putF (D := G.1) (ci := 5) (v := .ref pX3) (ty := (.object "TreeConfigurator$Rules")) (C := RX6) (T := TX6) (N := 7) hx hb hts in_wsX6_init_X6 tyX6 tyX6_ok nmX6 hown hK.1 hP hD hS 0 rfl rfl 1 (by decide) (w_mem hts 11 rfl) (fun _ h9 => h9) rfl hin rfl (by decide +kernel) rfl rfl (Nat.le_of_ble_eq_true rfl) dX6_init_23 (fun H locs hP hD hS => ?_)
  have hP : va_P G.1 vwCl [(q, .inr (5, [.ref pX5, .ref pX3, .null, .null, .null, .int 0, .int 0])), (pX5, .inr (4, [.ref (uX5 0), .ref (uX5 1), .ref (uX5 2), .ref (uX5 3), .int 0, .int 1])), ((uX5 0), .inl (G.2 0, 12, .inl (upd zr 0 (-1)))), ((uX5 1), .inl (G.2 0, 12, .inl zr)), ((uX5 2), .inl (G.2 0, 12, .inl zr)), ((uX5 3), .inl (G.2 0, 12, .inl (upd zr 0 12))), (pX3, .inr (3, [.ref (uX3 0), .ref (uX3 1), .ref (uX3 2), .int 0, .int 0])), ((uX3 0), .inl (G.2 0, 20, .inl zr)), ((uX3 1), .inl (G.2 0, 20, .inl zr)), ((uX3 2), .inl (G.2 0, 20, .inl zr))] H := hP
  have hD : va_D A [(q, .inr (5, [.ref pX5, .ref pX3, .null, .null, .null, .int 0, .int 0])), (pX5, .inr (4, [.ref (uX5 0), .ref (uX5 1), .ref (uX5 2), .ref (uX5 3), .int 0, .int 1])), ((uX5 0), .inl (G.2 0, 12, .inl (upd zr 0 (-1)))), ((uX5 1), .inl (G.2 0, 12, .inl zr)), ((uX5 2), .inl (G.2 0, 12, .inl zr)), ((uX5 3), .inl (G.2 0, 12, .inl (upd zr 0 12))), (pX3, .inr (3, [.ref (uX3 0), .ref (uX3 1), .ref (uX3 2), .int 0, .int 0])), ((uX3 0), .inl (G.2 0, 20, .inl zr)), ((uX3 1), .inl (G.2 0, 20, .inl zr)), ((uX3 2), .inl (G.2 0, 20, .inl zr))] := hD
  refine lv_aload_n hx hb dX6_init_26 rfl (lv_at hl 0 rfl) ?_
  refine va_new (D := G.1) (ci := 2) (fs := [.null, .null, .null, .null, .int 0]) (C := RX2) (T := TX2) (N := 5) hx hb hts in_wsX6_init_X2 tyX2 tyX2_ok hown (w_mem hts 12 rfl) (w_mem hts 13 rfl) (w_mem hts 14 rfl) hK.1 hP hD hS hA rfl (fun j hj => by rcases (show j = 0 ∨ j = 1 ∨ j = 2 ∨ j = 3 ∨ j = 4 by omega) with rfl | rfl | rfl | rfl | rfl <;> rfl) (Nat.le_of_ble_eq_true rfl) (Nat.le_of_ble_eq_true rfl) dX6_init_27 (fun pX2 H hP hD hS => ?_)
  have hP : va_P G.1 vwCl [(q, .inr (5, [.ref pX5, .ref pX3, .null, .null, .null, .int 0, .int 0])), (pX5, .inr (4, [.ref (uX5 0), .ref (uX5 1), .ref (uX5 2), .ref (uX5 3), .int 0, .int 1])), ((uX5 0), .inl (G.2 0, 12, .inl (upd zr 0 (-1)))), ((uX5 1), .inl (G.2 0, 12, .inl zr)), ((uX5 2), .inl (G.2 0, 12, .inl zr)), ((uX5 3), .inl (G.2 0, 12, .inl (upd zr 0 12))), (pX3, .inr (3, [.ref (uX3 0), .ref (uX3 1), .ref (uX3 2), .int 0, .int 0])), ((uX3 0), .inl (G.2 0, 20, .inl zr)), ((uX3 1), .inl (G.2 0, 20, .inl zr)), ((uX3 2), .inl (G.2 0, 20, .inl zr)), (pX2, .inr (2, [.null, .null, .null, .null, .int 0]))] H := hP
  have hD : va_D A [(q, .inr (5, [.ref pX5, .ref pX3, .null, .null, .null, .int 0, .int 0])), (pX5, .inr (4, [.ref (uX5 0), .ref (uX5 1), .ref (uX5 2), .ref (uX5 3), .int 0, .int 1])), ((uX5 0), .inl (G.2 0, 12, .inl (upd zr 0 (-1)))), ((uX5 1), .inl (G.2 0, 12, .inl zr)), ((uX5 2), .inl (G.2 0, 12, .inl zr)), ((uX5 3), .inl (G.2 0, 12, .inl (upd zr 0 12))), (pX3, .inr (3, [.ref (uX3 0), .ref (uX3 1), .ref (uX3 2), .int 0, .int 0])), ((uX3 0), .inl (G.2 0, 20, .inl zr)), ((uX3 1), .inl (G.2 0, 20, .inl zr)), ((uX3 2), .inl (G.2 0, 20, .inl zr)), (pX2, .inr (2, [.null, .null, .null, .null, .int 0]))] := hD
  refine W.widen (k := 10) (n := 124) (Nat.le_of_ble_eq_true rfl) (Nat.le_of_ble_eq_true rfl) ?_
  refine lv_dup hx hb dX6_init_30 rfl ?_
  refine j_v (Wd := fun u : Nat → Nat => [(pX2, .inr (2, [.ref (u 0), .ref (u 1), .ref (u 2), .ref (u 3), .int 0])), ((u 0), .inl (G.2 0, 12, .inl zr)), ((u 1), .inl (G.2 0, 6, .inl zr)), ((u 2), .inl (G.2 0, 6, .inl zr)), ((u 3), .inl (G.2 0, 6, .inl zr))]) (wc := [(pX2, .inr (2, [.null, .null, .null, .null, .int 0]))]) (wr := [(q, .inr (5, [.ref pX5, .ref pX3, .null, .null, .null, .int 0, .int 0])), (pX5, .inr (4, [.ref (uX5 0), .ref (uX5 1), .ref (uX5 2), .ref (uX5 3), .int 0, .int 1])), ((uX5 0), .inl (G.2 0, 12, .inl (upd zr 0 (-1)))), ((uX5 1), .inl (G.2 0, 12, .inl zr)), ((uX5 2), .inl (G.2 0, 12, .inl zr)), ((uX5 3), .inl (G.2 0, 12, .inl (upd zr 0 12))), (pX3, .inr (3, [.ref (uX3 0), .ref (uX3 1), .ref (uX3 2), .int 0, .int 0])), ((uX3 0), .inl (G.2 0, 20, .inl zr)), ((uX3 1), .inl (G.2 0, 20, .inl zr)), ((uX3 2), .inl (G.2 0, 20, .inl zr))]) (va_runIN (As := []) (rest := [.ref pX2, .ref q]) ⟨hx, hb, hml, hown, hts⟩ (kX2_init l G pX2 _) ⟨va_cnB 0 hts gX6_init_X2_init_n25 rfl rfl rfl (hK.2.nw 2 rfl) (w_mem hts 14 rfl) (by decide +kernel) ⟨Nat.le_of_ble_eq_true rfl, Nat.le_of_ble_eq_true rfl⟩, rfl, (w_mem hts 39 rfl)⟩ (wrS (hP.sub (ws' := [(pX2, .inr (2, [.null, .null, .null, .null, .int 0]))]) [10] rfl) (hD.sub (ws' := [(pX2, .inr (2, [.null, .null, .null, .null, .int 0]))]) [10] (by decide) rfl) hK) rfl rfl hl.1 rfl (lv_room (Nat.le_of_ble_eq_true rfl)) dX6_init_31 ⟨Nat.le_of_ble_eq_true rfl, Nat.le_of_ble_eq_true rfl⟩) hP hD hS hA [10] [0, 1, 2, 3, 4, 5, 6, 7, 8, 9] rfl rfl (by decide) (by decide) (fun uX2 H locs _ hP hD hS => ?_)
  have hP : va_P G.1 vwCl [(q, .inr (5, [.ref pX5, .ref pX3, .null, .null, .null, .int 0, .int 0])), (pX5, .inr (4, [.ref (uX5 0), .ref (uX5 1), .ref (uX5 2), .ref (uX5 3), .int 0, .int 1])), ((uX5 0), .inl (G.2 0, 12, .inl (upd zr 0 (-1)))), ((uX5 1), .inl (G.2 0, 12, .inl zr)), ((uX5 2), .inl (G.2 0, 12, .inl zr)), ((uX5 3), .inl (G.2 0, 12, .inl (upd zr 0 12))), (pX3, .inr (3, [.ref (uX3 0), .ref (uX3 1), .ref (uX3 2), .int 0, .int 0])), ((uX3 0), .inl (G.2 0, 20, .inl zr)), ((uX3 1), .inl (G.2 0, 20, .inl zr)), ((uX3 2), .inl (G.2 0, 20, .inl zr)), (pX2, .inr (2, [.ref (uX2 0), .ref (uX2 1), .ref (uX2 2), .ref (uX2 3), .int 0])), ((uX2 0), .inl (G.2 0, 12, .inl zr)), ((uX2 1), .inl (G.2 0, 6, .inl zr)), ((uX2 2), .inl (G.2 0, 6, .inl zr)), ((uX2 3), .inl (G.2 0, 6, .inl zr))] H := hP
  have hD : va_D A [(q, .inr (5, [.ref pX5, .ref pX3, .null, .null, .null, .int 0, .int 0])), (pX5, .inr (4, [.ref (uX5 0), .ref (uX5 1), .ref (uX5 2), .ref (uX5 3), .int 0, .int 1])), ((uX5 0), .inl (G.2 0, 12, .inl (upd zr 0 (-1)))), ((uX5 1), .inl (G.2 0, 12, .inl zr)), ((uX5 2), .inl (G.2 0, 12, .inl zr)), ((uX5 3), .inl (G.2 0, 12, .inl (upd zr 0 12))), (pX3, .inr (3, [.ref (uX3 0), .ref (uX3 1), .ref (uX3 2), .int 0, .int 0])), ((uX3 0), .inl (G.2 0, 20, .inl zr)), ((uX3 1), .inl (G.2 0, 20, .inl zr)), ((uX3 2), .inl (G.2 0, 20, .inl zr)), (pX2, .inr (2, [.ref (uX2 0), .ref (uX2 1), .ref (uX2 2), .ref (uX2 3), .int 0])), ((uX2 0), .inl (G.2 0, 12, .inl zr)), ((uX2 1), .inl (G.2 0, 6, .inl zr)), ((uX2 2), .inl (G.2 0, 6, .inl zr)), ((uX2 3), .inl (G.2 0, 6, .inl zr))] := hD
  refine W.widen (k := 14) (n := 154) (Nat.le_of_ble_eq_true rfl) (Nat.le_of_ble_eq_true rfl) ?_
  refine va_putF (D := G.1) (ci := 5) (v := .ref pX2) (ty := (.object "TreeConfigurator$Prices")) (C := RX6) (T := TX6) (N := 7) hx hb hts in_wsX6_init_X6 tyX6 tyX6_ok nmX6 hown hK.1 hP hD hS 0 rfl rfl 2 (by decide) (w_mem hts 15 rfl) (fun _ h9 => h9) rfl hin rfl (by decide +kernel) rfl rfl (Nat.le_of_ble_eq_true rfl) dX6_init_34 (fun H locs hP hD hS => ?_)
  have hP : va_P G.1 vwCl [(q, .inr (5, [.ref pX5, .ref pX3, .ref pX2, .null, .null, .int 0, .int 0])), (pX5, .inr (4, [.ref (uX5 0), .ref (uX5 1), .ref (uX5 2), .ref (uX5 3), .int 0, .int 1])), ((uX5 0), .inl (G.2 0, 12, .inl (upd zr 0 (-1)))), ((uX5 1), .inl (G.2 0, 12, .inl zr)), ((uX5 2), .inl (G.2 0, 12, .inl zr)), ((uX5 3), .inl (G.2 0, 12, .inl (upd zr 0 12))), (pX3, .inr (3, [.ref (uX3 0), .ref (uX3 1), .ref (uX3 2), .int 0, .int 0])), ((uX3 0), .inl (G.2 0, 20, .inl zr)), ((uX3 1), .inl (G.2 0, 20, .inl zr)), ((uX3 2), .inl (G.2 0, 20, .inl zr)), (pX2, .inr (2, [.ref (uX2 0), .ref (uX2 1), .ref (uX2 2), .ref (uX2 3), .int 0])), ((uX2 0), .inl (G.2 0, 12, .inl zr)), ((uX2 1), .inl (G.2 0, 6, .inl zr)), ((uX2 2), .inl (G.2 0, 6, .inl zr)), ((uX2 3), .inl (G.2 0, 6, .inl zr))] H := hP
  have hD : va_D A [(q, .inr (5, [.ref pX5, .ref pX3, .ref pX2, .null, .null, .int 0, .int 0])), (pX5, .inr (4, [.ref (uX5 0), .ref (uX5 1), .ref (uX5 2), .ref (uX5 3), .int 0, .int 1])), ((uX5 0), .inl (G.2 0, 12, .inl (upd zr 0 (-1)))), ((uX5 1), .inl (G.2 0, 12, .inl zr)), ((uX5 2), .inl (G.2 0, 12, .inl zr)), ((uX5 3), .inl (G.2 0, 12, .inl (upd zr 0 12))), (pX3, .inr (3, [.ref (uX3 0), .ref (uX3 1), .ref (uX3 2), .int 0, .int 0])), ((uX3 0), .inl (G.2 0, 20, .inl zr)), ((uX3 1), .inl (G.2 0, 20, .inl zr)), ((uX3 2), .inl (G.2 0, 20, .inl zr)), (pX2, .inr (2, [.ref (uX2 0), .ref (uX2 1), .ref (uX2 2), .ref (uX2 3), .int 0])), ((uX2 0), .inl (G.2 0, 12, .inl zr)), ((uX2 1), .inl (G.2 0, 6, .inl zr)), ((uX2 2), .inl (G.2 0, 6, .inl zr)), ((uX2 3), .inl (G.2 0, 6, .inl zr))] := hD
  refine lv_aload_n hx hb dX6_init_37 rfl (lv_at hl 0 rfl) ?_
  refine va_new (D := G.1) (ci := 0) (fs := [.null, .null, .int 0, .int 0]) (C := RX0) (T := TX0) (N := 4) hx hb hts in_wsX6_init_X0 tyX0 tyX0_ok hown (w_mem hts 16 rfl) (w_mem hts 17 rfl) (w_mem hts 18 rfl) hK.1 hP hD hS hA rfl (fun j hj => by rcases (show j = 0 ∨ j = 1 ∨ j = 2 ∨ j = 3 by omega) with rfl | rfl | rfl | rfl <;> rfl) (Nat.le_of_ble_eq_true rfl) (Nat.le_of_ble_eq_true rfl) dX6_init_38 (fun pX0 H hP hD hS => ?_)
  have hP : va_P G.1 vwCl [(q, .inr (5, [.ref pX5, .ref pX3, .ref pX2, .null, .null, .int 0, .int 0])), (pX5, .inr (4, [.ref (uX5 0), .ref (uX5 1), .ref (uX5 2), .ref (uX5 3), .int 0, .int 1])), ((uX5 0), .inl (G.2 0, 12, .inl (upd zr 0 (-1)))), ((uX5 1), .inl (G.2 0, 12, .inl zr)), ((uX5 2), .inl (G.2 0, 12, .inl zr)), ((uX5 3), .inl (G.2 0, 12, .inl (upd zr 0 12))), (pX3, .inr (3, [.ref (uX3 0), .ref (uX3 1), .ref (uX3 2), .int 0, .int 0])), ((uX3 0), .inl (G.2 0, 20, .inl zr)), ((uX3 1), .inl (G.2 0, 20, .inl zr)), ((uX3 2), .inl (G.2 0, 20, .inl zr)), (pX2, .inr (2, [.ref (uX2 0), .ref (uX2 1), .ref (uX2 2), .ref (uX2 3), .int 0])), ((uX2 0), .inl (G.2 0, 12, .inl zr)), ((uX2 1), .inl (G.2 0, 6, .inl zr)), ((uX2 2), .inl (G.2 0, 6, .inl zr)), ((uX2 3), .inl (G.2 0, 6, .inl zr)), (pX0, .inr (0, [.null, .null, .int 0, .int 0]))] H := hP
  have hD : va_D A [(q, .inr (5, [.ref pX5, .ref pX3, .ref pX2, .null, .null, .int 0, .int 0])), (pX5, .inr (4, [.ref (uX5 0), .ref (uX5 1), .ref (uX5 2), .ref (uX5 3), .int 0, .int 1])), ((uX5 0), .inl (G.2 0, 12, .inl (upd zr 0 (-1)))), ((uX5 1), .inl (G.2 0, 12, .inl zr)), ((uX5 2), .inl (G.2 0, 12, .inl zr)), ((uX5 3), .inl (G.2 0, 12, .inl (upd zr 0 12))), (pX3, .inr (3, [.ref (uX3 0), .ref (uX3 1), .ref (uX3 2), .int 0, .int 0])), ((uX3 0), .inl (G.2 0, 20, .inl zr)), ((uX3 1), .inl (G.2 0, 20, .inl zr)), ((uX3 2), .inl (G.2 0, 20, .inl zr)), (pX2, .inr (2, [.ref (uX2 0), .ref (uX2 1), .ref (uX2 2), .ref (uX2 3), .int 0])), ((uX2 0), .inl (G.2 0, 12, .inl zr)), ((uX2 1), .inl (G.2 0, 6, .inl zr)), ((uX2 2), .inl (G.2 0, 6, .inl zr)), ((uX2 3), .inl (G.2 0, 6, .inl zr)), (pX0, .inr (0, [.null, .null, .int 0, .int 0]))] := hD
  refine W.widen (k := 15) (n := 158) (Nat.le_of_ble_eq_true rfl) (Nat.le_of_ble_eq_true rfl) ?_
  refine lv_dup hx hb dX6_init_41 rfl ?_
  refine j_v (Wd := fun u : Nat → Nat => [(pX0, .inr (0, [.ref (u 0), .ref (u 1), .int 0, .int 0])), ((u 0), .inl (G.2 1, 12, .inl zr)), ((u 1), .inl (G.2 0, 12, .inl zr))]) (wc := [(pX0, .inr (0, [.null, .null, .int 0, .int 0]))]) (wr := [(q, .inr (5, [.ref pX5, .ref pX3, .ref pX2, .null, .null, .int 0, .int 0])), (pX5, .inr (4, [.ref (uX5 0), .ref (uX5 1), .ref (uX5 2), .ref (uX5 3), .int 0, .int 1])), ((uX5 0), .inl (G.2 0, 12, .inl (upd zr 0 (-1)))), ((uX5 1), .inl (G.2 0, 12, .inl zr)), ((uX5 2), .inl (G.2 0, 12, .inl zr)), ((uX5 3), .inl (G.2 0, 12, .inl (upd zr 0 12))), (pX3, .inr (3, [.ref (uX3 0), .ref (uX3 1), .ref (uX3 2), .int 0, .int 0])), ((uX3 0), .inl (G.2 0, 20, .inl zr)), ((uX3 1), .inl (G.2 0, 20, .inl zr)), ((uX3 2), .inl (G.2 0, 20, .inl zr)), (pX2, .inr (2, [.ref (uX2 0), .ref (uX2 1), .ref (uX2 2), .ref (uX2 3), .int 0])), ((uX2 0), .inl (G.2 0, 12, .inl zr)), ((uX2 1), .inl (G.2 0, 6, .inl zr)), ((uX2 2), .inl (G.2 0, 6, .inl zr)), ((uX2 3), .inl (G.2 0, 6, .inl zr))]) (va_runIN (As := []) (rest := [.ref pX0, .ref q]) ⟨hx, hb, hml, hown, hts⟩ (kX0_init l G pX0 _) ⟨va_cnB 0 hts gX6_init_X0_init_n32 rfl rfl rfl (hK.2.nw 3 rfl) (w_mem hts 18 rfl) (by decide +kernel) ⟨Nat.le_of_ble_eq_true rfl, Nat.le_of_ble_eq_true rfl⟩, rfl, (w_mem hts 46 rfl)⟩ (wrS (hP.sub (ws' := [(pX0, .inr (0, [.null, .null, .int 0, .int 0]))]) [15] rfl) (hD.sub (ws' := [(pX0, .inr (0, [.null, .null, .int 0, .int 0]))]) [15] (by decide) rfl) hK) rfl rfl hl.1 rfl (lv_room (Nat.le_of_ble_eq_true rfl)) dX6_init_42 ⟨Nat.le_of_ble_eq_true rfl, Nat.le_of_ble_eq_true rfl⟩) hP hD hS hA [15] [0, 1, 2, 3, 4, 5, 6, 7, 8, 9, 10, 11, 12, 13, 14] rfl rfl (by decide) (by decide) (fun uX0 H locs _ hP hD hS => ?_)
  have hP : va_P G.1 vwCl [(q, .inr (5, [.ref pX5, .ref pX3, .ref pX2, .null, .null, .int 0, .int 0])), (pX5, .inr (4, [.ref (uX5 0), .ref (uX5 1), .ref (uX5 2), .ref (uX5 3), .int 0, .int 1])), ((uX5 0), .inl (G.2 0, 12, .inl (upd zr 0 (-1)))), ((uX5 1), .inl (G.2 0, 12, .inl zr)), ((uX5 2), .inl (G.2 0, 12, .inl zr)), ((uX5 3), .inl (G.2 0, 12, .inl (upd zr 0 12))), (pX3, .inr (3, [.ref (uX3 0), .ref (uX3 1), .ref (uX3 2), .int 0, .int 0])), ((uX3 0), .inl (G.2 0, 20, .inl zr)), ((uX3 1), .inl (G.2 0, 20, .inl zr)), ((uX3 2), .inl (G.2 0, 20, .inl zr)), (pX2, .inr (2, [.ref (uX2 0), .ref (uX2 1), .ref (uX2 2), .ref (uX2 3), .int 0])), ((uX2 0), .inl (G.2 0, 12, .inl zr)), ((uX2 1), .inl (G.2 0, 6, .inl zr)), ((uX2 2), .inl (G.2 0, 6, .inl zr)), ((uX2 3), .inl (G.2 0, 6, .inl zr)), (pX0, .inr (0, [.ref (uX0 0), .ref (uX0 1), .int 0, .int 0])), ((uX0 0), .inl (G.2 1, 12, .inl zr)), ((uX0 1), .inl (G.2 0, 12, .inl zr))] H := hP
  have hD : va_D A [(q, .inr (5, [.ref pX5, .ref pX3, .ref pX2, .null, .null, .int 0, .int 0])), (pX5, .inr (4, [.ref (uX5 0), .ref (uX5 1), .ref (uX5 2), .ref (uX5 3), .int 0, .int 1])), ((uX5 0), .inl (G.2 0, 12, .inl (upd zr 0 (-1)))), ((uX5 1), .inl (G.2 0, 12, .inl zr)), ((uX5 2), .inl (G.2 0, 12, .inl zr)), ((uX5 3), .inl (G.2 0, 12, .inl (upd zr 0 12))), (pX3, .inr (3, [.ref (uX3 0), .ref (uX3 1), .ref (uX3 2), .int 0, .int 0])), ((uX3 0), .inl (G.2 0, 20, .inl zr)), ((uX3 1), .inl (G.2 0, 20, .inl zr)), ((uX3 2), .inl (G.2 0, 20, .inl zr)), (pX2, .inr (2, [.ref (uX2 0), .ref (uX2 1), .ref (uX2 2), .ref (uX2 3), .int 0])), ((uX2 0), .inl (G.2 0, 12, .inl zr)), ((uX2 1), .inl (G.2 0, 6, .inl zr)), ((uX2 2), .inl (G.2 0, 6, .inl zr)), ((uX2 3), .inl (G.2 0, 6, .inl zr)), (pX0, .inr (0, [.ref (uX0 0), .ref (uX0 1), .int 0, .int 0])), ((uX0 0), .inl (G.2 1, 12, .inl zr)), ((uX0 1), .inl (G.2 0, 12, .inl zr))] := hD
  refine W.widen (k := 17) (n := 182) (Nat.le_of_ble_eq_true rfl) (Nat.le_of_ble_eq_true rfl) ?_
  refine va_putF (D := G.1) (ci := 5) (v := .ref pX0) (ty := (.object "TreeConfigurator$Deduction")) (C := RX6) (T := TX6) (N := 7) hx hb hts in_wsX6_init_X6 tyX6 tyX6_ok nmX6 hown hK.1 hP hD hS 0 rfl rfl 3 (by decide) (w_mem hts 19 rfl) (fun _ h9 => h9) rfl hin rfl (by decide +kernel) rfl rfl (Nat.le_of_ble_eq_true rfl) dX6_init_45 (fun H locs hP hD hS => ?_)
  have hP : va_P G.1 vwCl [(q, .inr (5, [.ref pX5, .ref pX3, .ref pX2, .ref pX0, .null, .int 0, .int 0])), (pX5, .inr (4, [.ref (uX5 0), .ref (uX5 1), .ref (uX5 2), .ref (uX5 3), .int 0, .int 1])), ((uX5 0), .inl (G.2 0, 12, .inl (upd zr 0 (-1)))), ((uX5 1), .inl (G.2 0, 12, .inl zr)), ((uX5 2), .inl (G.2 0, 12, .inl zr)), ((uX5 3), .inl (G.2 0, 12, .inl (upd zr 0 12))), (pX3, .inr (3, [.ref (uX3 0), .ref (uX3 1), .ref (uX3 2), .int 0, .int 0])), ((uX3 0), .inl (G.2 0, 20, .inl zr)), ((uX3 1), .inl (G.2 0, 20, .inl zr)), ((uX3 2), .inl (G.2 0, 20, .inl zr)), (pX2, .inr (2, [.ref (uX2 0), .ref (uX2 1), .ref (uX2 2), .ref (uX2 3), .int 0])), ((uX2 0), .inl (G.2 0, 12, .inl zr)), ((uX2 1), .inl (G.2 0, 6, .inl zr)), ((uX2 2), .inl (G.2 0, 6, .inl zr)), ((uX2 3), .inl (G.2 0, 6, .inl zr)), (pX0, .inr (0, [.ref (uX0 0), .ref (uX0 1), .int 0, .int 0])), ((uX0 0), .inl (G.2 1, 12, .inl zr)), ((uX0 1), .inl (G.2 0, 12, .inl zr))] H := hP
  have hD : va_D A [(q, .inr (5, [.ref pX5, .ref pX3, .ref pX2, .ref pX0, .null, .int 0, .int 0])), (pX5, .inr (4, [.ref (uX5 0), .ref (uX5 1), .ref (uX5 2), .ref (uX5 3), .int 0, .int 1])), ((uX5 0), .inl (G.2 0, 12, .inl (upd zr 0 (-1)))), ((uX5 1), .inl (G.2 0, 12, .inl zr)), ((uX5 2), .inl (G.2 0, 12, .inl zr)), ((uX5 3), .inl (G.2 0, 12, .inl (upd zr 0 12))), (pX3, .inr (3, [.ref (uX3 0), .ref (uX3 1), .ref (uX3 2), .int 0, .int 0])), ((uX3 0), .inl (G.2 0, 20, .inl zr)), ((uX3 1), .inl (G.2 0, 20, .inl zr)), ((uX3 2), .inl (G.2 0, 20, .inl zr)), (pX2, .inr (2, [.ref (uX2 0), .ref (uX2 1), .ref (uX2 2), .ref (uX2 3), .int 0])), ((uX2 0), .inl (G.2 0, 12, .inl zr)), ((uX2 1), .inl (G.2 0, 6, .inl zr)), ((uX2 2), .inl (G.2 0, 6, .inl zr)), ((uX2 3), .inl (G.2 0, 6, .inl zr)), (pX0, .inr (0, [.ref (uX0 0), .ref (uX0 1), .int 0, .int 0])), ((uX0 0), .inl (G.2 1, 12, .inl zr)), ((uX0 1), .inl (G.2 0, 12, .inl zr))] := hD
  refine lv_aload_n hx hb dX6_init_48 rfl (lv_at hl 0 rfl) ?_
  refine va_new (D := G.1) (ci := 1) (fs := [.null, .int 0]) (C := RX1) (T := TX1) (N := 2) hx hb hts in_wsX6_init_X1 tyX1 tyX1_ok hown (w_mem hts 20 rfl) (w_mem hts 21 rfl) (w_mem hts 22 rfl) hK.1 hP hD hS hA rfl (fun j hj => by rcases (show j = 0 ∨ j = 1 by omega) with rfl | rfl <;> rfl) (Nat.le_of_ble_eq_true rfl) (Nat.le_of_ble_eq_true rfl) dX6_init_49 (fun pX1 H hP hD hS => ?_)
  have hP : va_P G.1 vwCl [(q, .inr (5, [.ref pX5, .ref pX3, .ref pX2, .ref pX0, .null, .int 0, .int 0])), (pX5, .inr (4, [.ref (uX5 0), .ref (uX5 1), .ref (uX5 2), .ref (uX5 3), .int 0, .int 1])), ((uX5 0), .inl (G.2 0, 12, .inl (upd zr 0 (-1)))), ((uX5 1), .inl (G.2 0, 12, .inl zr)), ((uX5 2), .inl (G.2 0, 12, .inl zr)), ((uX5 3), .inl (G.2 0, 12, .inl (upd zr 0 12))), (pX3, .inr (3, [.ref (uX3 0), .ref (uX3 1), .ref (uX3 2), .int 0, .int 0])), ((uX3 0), .inl (G.2 0, 20, .inl zr)), ((uX3 1), .inl (G.2 0, 20, .inl zr)), ((uX3 2), .inl (G.2 0, 20, .inl zr)), (pX2, .inr (2, [.ref (uX2 0), .ref (uX2 1), .ref (uX2 2), .ref (uX2 3), .int 0])), ((uX2 0), .inl (G.2 0, 12, .inl zr)), ((uX2 1), .inl (G.2 0, 6, .inl zr)), ((uX2 2), .inl (G.2 0, 6, .inl zr)), ((uX2 3), .inl (G.2 0, 6, .inl zr)), (pX0, .inr (0, [.ref (uX0 0), .ref (uX0 1), .int 0, .int 0])), ((uX0 0), .inl (G.2 1, 12, .inl zr)), ((uX0 1), .inl (G.2 0, 12, .inl zr)), (pX1, .inr (1, [.null, .int 0]))] H := hP
  have hD : va_D A [(q, .inr (5, [.ref pX5, .ref pX3, .ref pX2, .ref pX0, .null, .int 0, .int 0])), (pX5, .inr (4, [.ref (uX5 0), .ref (uX5 1), .ref (uX5 2), .ref (uX5 3), .int 0, .int 1])), ((uX5 0), .inl (G.2 0, 12, .inl (upd zr 0 (-1)))), ((uX5 1), .inl (G.2 0, 12, .inl zr)), ((uX5 2), .inl (G.2 0, 12, .inl zr)), ((uX5 3), .inl (G.2 0, 12, .inl (upd zr 0 12))), (pX3, .inr (3, [.ref (uX3 0), .ref (uX3 1), .ref (uX3 2), .int 0, .int 0])), ((uX3 0), .inl (G.2 0, 20, .inl zr)), ((uX3 1), .inl (G.2 0, 20, .inl zr)), ((uX3 2), .inl (G.2 0, 20, .inl zr)), (pX2, .inr (2, [.ref (uX2 0), .ref (uX2 1), .ref (uX2 2), .ref (uX2 3), .int 0])), ((uX2 0), .inl (G.2 0, 12, .inl zr)), ((uX2 1), .inl (G.2 0, 6, .inl zr)), ((uX2 2), .inl (G.2 0, 6, .inl zr)), ((uX2 3), .inl (G.2 0, 6, .inl zr)), (pX0, .inr (0, [.ref (uX0 0), .ref (uX0 1), .int 0, .int 0])), ((uX0 0), .inl (G.2 1, 12, .inl zr)), ((uX0 1), .inl (G.2 0, 12, .inl zr)), (pX1, .inr (1, [.null, .int 0]))] := hD
  refine W.widen (k := 18) (n := 184) (Nat.le_of_ble_eq_true rfl) (Nat.le_of_ble_eq_true rfl) ?_
  refine lv_dup hx hb dX6_init_52 rfl ?_
  refine j_v (Wd := fun u : Nat → Nat => [(pX1, .inr (1, [.ref (u 0), .int 0])), ((u 0), .inl (G.2 1, 64, .inl zr))]) (wc := [(pX1, .inr (1, [.null, .int 0]))]) (wr := [(q, .inr (5, [.ref pX5, .ref pX3, .ref pX2, .ref pX0, .null, .int 0, .int 0])), (pX5, .inr (4, [.ref (uX5 0), .ref (uX5 1), .ref (uX5 2), .ref (uX5 3), .int 0, .int 1])), ((uX5 0), .inl (G.2 0, 12, .inl (upd zr 0 (-1)))), ((uX5 1), .inl (G.2 0, 12, .inl zr)), ((uX5 2), .inl (G.2 0, 12, .inl zr)), ((uX5 3), .inl (G.2 0, 12, .inl (upd zr 0 12))), (pX3, .inr (3, [.ref (uX3 0), .ref (uX3 1), .ref (uX3 2), .int 0, .int 0])), ((uX3 0), .inl (G.2 0, 20, .inl zr)), ((uX3 1), .inl (G.2 0, 20, .inl zr)), ((uX3 2), .inl (G.2 0, 20, .inl zr)), (pX2, .inr (2, [.ref (uX2 0), .ref (uX2 1), .ref (uX2 2), .ref (uX2 3), .int 0])), ((uX2 0), .inl (G.2 0, 12, .inl zr)), ((uX2 1), .inl (G.2 0, 6, .inl zr)), ((uX2 2), .inl (G.2 0, 6, .inl zr)), ((uX2 3), .inl (G.2 0, 6, .inl zr)), (pX0, .inr (0, [.ref (uX0 0), .ref (uX0 1), .int 0, .int 0])), ((uX0 0), .inl (G.2 1, 12, .inl zr)), ((uX0 1), .inl (G.2 0, 12, .inl zr))]) (va_runIN (As := []) (rest := [.ref pX1, .ref q]) ⟨hx, hb, hml, hown, hts⟩ (kX1_init l G pX1 _) ⟨va_cnB 0 hts gX6_init_X1_init_n39 rfl rfl rfl (hK.2.nw 4 rfl) (w_mem hts 22 rfl) (by decide +kernel) ⟨Nat.le_of_ble_eq_true rfl, Nat.le_of_ble_eq_true rfl⟩, rfl, (w_mem hts 52 rfl)⟩ (wrS (hP.sub (ws' := [(pX1, .inr (1, [.null, .int 0]))]) [18] rfl) (hD.sub (ws' := [(pX1, .inr (1, [.null, .int 0]))]) [18] (by decide) rfl) hK) rfl rfl hl.1 rfl (lv_room (Nat.le_of_ble_eq_true rfl)) dX6_init_53 ⟨Nat.le_of_ble_eq_true rfl, Nat.le_of_ble_eq_true rfl⟩) hP hD hS hA [18] [0, 1, 2, 3, 4, 5, 6, 7, 8, 9, 10, 11, 12, 13, 14, 15, 16, 17] rfl rfl (by decide) (by decide) (fun uX1 H locs _ hP hD hS => ?_)
  have hP : va_P G.1 vwCl [(q, .inr (5, [.ref pX5, .ref pX3, .ref pX2, .ref pX0, .null, .int 0, .int 0])), (pX5, .inr (4, [.ref (uX5 0), .ref (uX5 1), .ref (uX5 2), .ref (uX5 3), .int 0, .int 1])), ((uX5 0), .inl (G.2 0, 12, .inl (upd zr 0 (-1)))), ((uX5 1), .inl (G.2 0, 12, .inl zr)), ((uX5 2), .inl (G.2 0, 12, .inl zr)), ((uX5 3), .inl (G.2 0, 12, .inl (upd zr 0 12))), (pX3, .inr (3, [.ref (uX3 0), .ref (uX3 1), .ref (uX3 2), .int 0, .int 0])), ((uX3 0), .inl (G.2 0, 20, .inl zr)), ((uX3 1), .inl (G.2 0, 20, .inl zr)), ((uX3 2), .inl (G.2 0, 20, .inl zr)), (pX2, .inr (2, [.ref (uX2 0), .ref (uX2 1), .ref (uX2 2), .ref (uX2 3), .int 0])), ((uX2 0), .inl (G.2 0, 12, .inl zr)), ((uX2 1), .inl (G.2 0, 6, .inl zr)), ((uX2 2), .inl (G.2 0, 6, .inl zr)), ((uX2 3), .inl (G.2 0, 6, .inl zr)), (pX0, .inr (0, [.ref (uX0 0), .ref (uX0 1), .int 0, .int 0])), ((uX0 0), .inl (G.2 1, 12, .inl zr)), ((uX0 1), .inl (G.2 0, 12, .inl zr)), (pX1, .inr (1, [.ref (uX1 0), .int 0])), ((uX1 0), .inl (G.2 1, 64, .inl zr))] H := hP
  have hD : va_D A [(q, .inr (5, [.ref pX5, .ref pX3, .ref pX2, .ref pX0, .null, .int 0, .int 0])), (pX5, .inr (4, [.ref (uX5 0), .ref (uX5 1), .ref (uX5 2), .ref (uX5 3), .int 0, .int 1])), ((uX5 0), .inl (G.2 0, 12, .inl (upd zr 0 (-1)))), ((uX5 1), .inl (G.2 0, 12, .inl zr)), ((uX5 2), .inl (G.2 0, 12, .inl zr)), ((uX5 3), .inl (G.2 0, 12, .inl (upd zr 0 12))), (pX3, .inr (3, [.ref (uX3 0), .ref (uX3 1), .ref (uX3 2), .int 0, .int 0])), ((uX3 0), .inl (G.2 0, 20, .inl zr)), ((uX3 1), .inl (G.2 0, 20, .inl zr)), ((uX3 2), .inl (G.2 0, 20, .inl zr)), (pX2, .inr (2, [.ref (uX2 0), .ref (uX2 1), .ref (uX2 2), .ref (uX2 3), .int 0])), ((uX2 0), .inl (G.2 0, 12, .inl zr)), ((uX2 1), .inl (G.2 0, 6, .inl zr)), ((uX2 2), .inl (G.2 0, 6, .inl zr)), ((uX2 3), .inl (G.2 0, 6, .inl zr)), (pX0, .inr (0, [.ref (uX0 0), .ref (uX0 1), .int 0, .int 0])), ((uX0 0), .inl (G.2 1, 12, .inl zr)), ((uX0 1), .inl (G.2 0, 12, .inl zr)), (pX1, .inr (1, [.ref (uX1 0), .int 0])), ((uX1 0), .inl (G.2 1, 64, .inl zr))] := hD
  refine W.widen (k := 19) (n := 248) (Nat.le_of_ble_eq_true rfl) (Nat.le_of_ble_eq_true rfl) ?_
  refine va_putF (D := G.1) (ci := 5) (v := .ref pX1) (ty := (.object "TreeConfigurator$Line")) (C := RX6) (T := TX6) (N := 7) hx hb hts in_wsX6_init_X6 tyX6 tyX6_ok nmX6 hown hK.1 hP hD hS 0 rfl rfl 4 (by decide) (w_mem hts 23 rfl) (fun _ h9 => h9) rfl hin rfl (by decide +kernel) rfl rfl (Nat.le_of_ble_eq_true rfl) dX6_init_56 (fun H locs hP hD hS => ?_)
  have hP : va_P G.1 vwCl [(q, .inr (5, [.ref pX5, .ref pX3, .ref pX2, .ref pX0, .ref pX1, .int 0, .int 0])), (pX5, .inr (4, [.ref (uX5 0), .ref (uX5 1), .ref (uX5 2), .ref (uX5 3), .int 0, .int 1])), ((uX5 0), .inl (G.2 0, 12, .inl (upd zr 0 (-1)))), ((uX5 1), .inl (G.2 0, 12, .inl zr)), ((uX5 2), .inl (G.2 0, 12, .inl zr)), ((uX5 3), .inl (G.2 0, 12, .inl (upd zr 0 12))), (pX3, .inr (3, [.ref (uX3 0), .ref (uX3 1), .ref (uX3 2), .int 0, .int 0])), ((uX3 0), .inl (G.2 0, 20, .inl zr)), ((uX3 1), .inl (G.2 0, 20, .inl zr)), ((uX3 2), .inl (G.2 0, 20, .inl zr)), (pX2, .inr (2, [.ref (uX2 0), .ref (uX2 1), .ref (uX2 2), .ref (uX2 3), .int 0])), ((uX2 0), .inl (G.2 0, 12, .inl zr)), ((uX2 1), .inl (G.2 0, 6, .inl zr)), ((uX2 2), .inl (G.2 0, 6, .inl zr)), ((uX2 3), .inl (G.2 0, 6, .inl zr)), (pX0, .inr (0, [.ref (uX0 0), .ref (uX0 1), .int 0, .int 0])), ((uX0 0), .inl (G.2 1, 12, .inl zr)), ((uX0 1), .inl (G.2 0, 12, .inl zr)), (pX1, .inr (1, [.ref (uX1 0), .int 0])), ((uX1 0), .inl (G.2 1, 64, .inl zr))] H := hP
  have hD : va_D A [(q, .inr (5, [.ref pX5, .ref pX3, .ref pX2, .ref pX0, .ref pX1, .int 0, .int 0])), (pX5, .inr (4, [.ref (uX5 0), .ref (uX5 1), .ref (uX5 2), .ref (uX5 3), .int 0, .int 1])), ((uX5 0), .inl (G.2 0, 12, .inl (upd zr 0 (-1)))), ((uX5 1), .inl (G.2 0, 12, .inl zr)), ((uX5 2), .inl (G.2 0, 12, .inl zr)), ((uX5 3), .inl (G.2 0, 12, .inl (upd zr 0 12))), (pX3, .inr (3, [.ref (uX3 0), .ref (uX3 1), .ref (uX3 2), .int 0, .int 0])), ((uX3 0), .inl (G.2 0, 20, .inl zr)), ((uX3 1), .inl (G.2 0, 20, .inl zr)), ((uX3 2), .inl (G.2 0, 20, .inl zr)), (pX2, .inr (2, [.ref (uX2 0), .ref (uX2 1), .ref (uX2 2), .ref (uX2 3), .int 0])), ((uX2 0), .inl (G.2 0, 12, .inl zr)), ((uX2 1), .inl (G.2 0, 6, .inl zr)), ((uX2 2), .inl (G.2 0, 6, .inl zr)), ((uX2 3), .inl (G.2 0, 6, .inl zr)), (pX0, .inr (0, [.ref (uX0 0), .ref (uX0 1), .int 0, .int 0])), ((uX0 0), .inl (G.2 1, 12, .inl zr)), ((uX0 1), .inl (G.2 0, 12, .inl zr)), (pX1, .inr (1, [.ref (uX1 0), .int 0])), ((uX1 0), .inl (G.2 1, 64, .inl zr))] := hD
  have hP := hP.sub (ws' := CW G (fun k => [q, pX5, pX3, pX2, pX0, pX1, uX5 0, uX5 1, uX5 2, uX5 3, uX3 0, uX3 1, uX3 2, uX2 0, uX2 1, uX2 2, uX2 3, uX0 0, uX0 1, uX1 0].getD k 0) C0) [0, 1, 6, 10, 15, 18, 2, 3, 4, 5, 7, 8, 9, 11, 12, 13, 14, 16, 17, 19] rfl
  have hD := hD.sub (ws' := CW G (fun k => [q, pX5, pX3, pX2, pX0, pX1, uX5 0, uX5 1, uX5 2, uX5 3, uX3 0, uX3 1, uX3 2, uX2 0, uX2 1, uX2 2, uX2 3, uX0 0, uX0 1, uX1 0].getD k 0) C0) [0, 1, 6, 10, 15, 18, 2, 3, 4, 5, 7, 8, 9, 11, 12, 13, 14, 16, 17, 19] (by decide) rfl
  exact W.vret hx hb hr (fun t ht _ => ⟨⟨(fun k => [q, pX5, pX3, pX2, pX0, pX1, uX5 0, uX5 1, uX5 2, uX5 3, uX3 0, uX3 1, uX3 2, uX2 0, uX2 1, uX2 2, uX2 3, uX0 0, uX0 1, uX1 0].getD k 0), rfl, rfl, by rw [ht]; exact hP, hD⟩, hS.F ht⟩) hS.2.2 dX6_init_59 hlocks
