def rmX7_addFeature : Room := { frames := 2, cells := 0, slots := 0, locals := 43 }

theorem in_wsX7_addFeature_X7 : ∀ w ∈ u_ws RX7 TX7 24, w ∈ wsX7_addFeature := by decide +kernel

set_option maxHeartbeats 4000000 in
set_option maxRecDepth 100000 in
theorem wX7_addFeature_52 {p : Program} {l : Launch} {e : Env} {s : State} {m : MethodId} {args : Array Value} {below : List Frame} {meth : Method} {c : Code} {G : GT} {q : Nat → Nat} {A : Nat → Prop} {out : Int32 × St} (bx : BX p RX7 wsX7_addFeature cX7_addFeature 3 (some .int) s m args meth c) (hA : ∀ q : Nat, s.heap.size ≤ q → A q) (hK : CK G s) (C : St) (x1 : Int32) (x2 : Int32) (t1 : Int32) (h : pX7_addFeature_52 C x1 x2 t1 = some out) {H : Heap} {locs : List Loc} (hP : va_P G.1 vwCl (MW G q C) H) (hD : va_D A (MW G q C)) (hS : va_S A s.heap H locs) (ls : Array Slot) (hl : lv_has ls 3 [(0, .ref (q 0)), (1, .int x1), (2, .int x2)]) : W p l e rmX7_addFeature s m args below meth c H locs 0 0 (MQi G (MW G q) A s args below out) (F0 m 52 ls [.int t1, .ref (q 0)]) := by
  obtain ⟨hx, hb, hr, hts, hown, hml, hlocks⟩ := id bx
  unfold pX7_addFeature_52 at h
  refine lv_iconst (v := 3) hx hb dX7_addFeature_52 (by decide) ?_
  obtain ⟨u_5, hu_5, h⟩ := bd_ex h
  refine wr_i (Wd := MW G q) (va_runV (As := [.int t1, .int 3]) (rest := []) ⟨hx, hb, hml, hown, hts⟩ (kX7_isThrown l G q C _ t1 3 u_5 hu_5) (cwV 2 hts gX7_addFeature_X7_isThrown rfl rfl rfl (by decide +kernel) ⟨Nat.le_of_ble_eq_true rfl, Nat.le_of_ble_eq_true rfl⟩) (wrV hP hD hK 8 0 rfl rfl) rfl rfl hl.1 rfl (lv_room (Nat.le_of_ble_eq_true rfl)) dX7_addFeature_53 ⟨Nat.zero_le _, Nat.zero_le _⟩) hD hS hA (fun _ => rfl) (fun H locs hP hD hS => ?_)
  refine lv_if_eq (tgt := 61) hx hb dX7_addFeature_56 (by decide) (fun c_56 => ?_) (fun c_56 => ?_)
  · have h := br_T h c_56
    refine lv_aload_n hx hb dX7_addFeature_61 rfl (lv_at hl 0 rfl) ?_
    refine va_get (D := G.1) (ci := 8) (v := .ref (q 1)) (C := RX7) (T := TX7) (N := 24) hx hb hts in_wsX7_addFeature_X7 hown hK.1 hP 0 rfl rfl 0 (by decide) (w_mem hts 2 rfl) (fun _ h9 => h9) rfl dX7_addFeature_62 ?_
    refine lv_aload_n hx hb dX7_addFeature_65 rfl (lv_at hl 0 rfl) ?_
    refine va_get (D := G.1) (ci := 8) (v := .int (u_5.2.1 0)) (C := RX7) (T := TX7) (N := 24) hx hb hts in_wsX7_addFeature_X7 hown hK.1 hP 0 rfl rfl 16 (by decide) (w_mem hts 1 rfl) (fun _ h9 => h9) rfl dX7_addFeature_66 ?_
    refine lv_iload_n hx hb dX7_addFeature_69 rfl (lv_at hl 1 rfl) ?_
    obtain ⟨g70, h⟩ := gd_ex h
    refine va_iast (D := G.1) hx hb hK.1 hP hD hS 1 0 rfl rfl g70 dX7_addFeature_70 (fun H locs hP hD hS => ?_)
    have hP : va_P G.1 vwCl (MW G q (sA u_5.2 0 (u_5.2.1 0).toNatClampNeg x1)) H := hP
    have hD : va_D A (MW G q (sA u_5.2 0 (u_5.2.1 0).toNatClampNeg x1)) := hD
    obtain ⟨C_6, eC_6, h⟩ := ltv_ex h
    rw [← eC_6] at hP hD
    refine lv_aload_n hx hb dX7_addFeature_71 rfl (lv_at hl 0 rfl) ?_
    refine va_get (D := G.1) (ci := 8) (v := .ref (q 2)) (C := RX7) (T := TX7) (N := 24) hx hb hts in_wsX7_addFeature_X7 hown hK.1 hP 0 rfl rfl 1 (by decide) (w_mem hts 3 rfl) (fun _ h9 => h9) rfl dX7_addFeature_72 ?_
    refine lv_aload_n hx hb dX7_addFeature_75 rfl (lv_at hl 0 rfl) ?_
    refine va_get (D := G.1) (ci := 8) (v := .int (C_6.1 0)) (C := RX7) (T := TX7) (N := 24) hx hb hts in_wsX7_addFeature_X7 hown hK.1 hP 0 rfl rfl 16 (by decide) (w_mem hts 1 rfl) (fun _ h9 => h9) rfl dX7_addFeature_76 ?_
    refine lv_iload_n hx hb dX7_addFeature_79 rfl (lv_at hl 2 rfl) ?_
    obtain ⟨g80, h⟩ := gd_ex h
    refine va_iast (D := G.1) hx hb hK.1 hP hD hS 2 0 rfl rfl g80 dX7_addFeature_80 (fun H locs hP hD hS => ?_)
    have hP : va_P G.1 vwCl (MW G q (sA C_6 1 (C_6.1 0).toNatClampNeg x2)) H := hP
    have hD : va_D A (MW G q (sA C_6 1 (C_6.1 0).toNatClampNeg x2)) := hD
    obtain ⟨C_7, eC_7, h⟩ := ltv_ex h
    rw [← eC_7] at hP hD
    refine lv_aload_n hx hb dX7_addFeature_81 rfl (lv_at hl 0 rfl) ?_
    refine va_get (D := G.1) (ci := 8) (v := .ref (q 4)) (C := RX7) (T := TX7) (N := 24) hx hb hts in_wsX7_addFeature_X7 hown hK.1 hP 0 rfl rfl 3 (by decide) (w_mem hts 4 rfl) (fun _ h9 => h9) rfl dX7_addFeature_82 ?_
    refine lv_aload_n hx hb dX7_addFeature_85 rfl (lv_at hl 0 rfl) ?_
    refine va_get (D := G.1) (ci := 8) (v := .int (C_7.1 0)) (C := RX7) (T := TX7) (N := 24) hx hb hts in_wsX7_addFeature_X7 hown hK.1 hP 0 rfl rfl 16 (by decide) (w_mem hts 1 rfl) (fun _ h9 => h9) rfl dX7_addFeature_86 ?_
    refine lv_bipush (v := 12) hx hb dX7_addFeature_89 (by decide) ?_
    obtain ⟨g91, h⟩ := gd_ex h
    refine va_iast (D := G.1) hx hb hK.1 hP hD hS 4 0 rfl rfl g91 dX7_addFeature_91 (fun H locs hP hD hS => ?_)
    have hP : va_P G.1 vwCl (MW G q (sA C_7 3 (C_7.1 0).toNatClampNeg 12)) H := hP
    have hD : va_D A (MW G q (sA C_7 3 (C_7.1 0).toNatClampNeg 12)) := hD
    obtain ⟨C_8, eC_8, h⟩ := ltv_ex h
    rw [← eC_8] at hP hD
    refine lv_aload_n hx hb dX7_addFeature_92 rfl (lv_at hl 0 rfl) ?_
    refine lv_dup hx hb dX7_addFeature_93 rfl ?_
    refine va_get (D := G.1) (ci := 8) (v := .int (C_8.1 0)) (C := RX7) (T := TX7) (N := 24) hx hb hts in_wsX7_addFeature_X7 hown hK.1 hP 0 rfl rfl 16 (by decide) (w_mem hts 1 rfl) (fun _ h9 => h9) rfl dX7_addFeature_94 ?_
    refine lv_iconst (v := 1) hx hb dX7_addFeature_97 (by decide) ?_
    refine lv_iadd hx hb dX7_addFeature_98 ?_
    refine va_put (D := G.1) (ci := 8) (v := .int ((C_8.1 0) + 1)) (ty := .int) (C := RX7) (T := TX7) (N := 24) hx hb hts in_wsX7_addFeature_X7 tyX7 tyX7_ok nmX7 hown hK.1 hP hD hS 0 rfl rfl 16 (by decide) (w_mem hts 1 rfl) (fun _ h9 => h9) rfl (by decide +kernel) rfl rfl (Nat.le_of_ble_eq_true rfl) dX7_addFeature_99 (fun H locs hP hD hS => ?_)
    have hP : va_P G.1 vwCl (MW G q (sS C_8 0 ((C_8.1 0) + 1))) H := hP
    have hD : va_D A (MW G q (sS C_8 0 ((C_8.1 0) + 1))) := hD
    obtain ⟨C_9, eC_9, h⟩ := ltv_ex h
    rw [← eC_9] at hP hD
    refine lv_aload_n hx hb dX7_addFeature_102 rfl (lv_at hl 0 rfl) ?_
    refine va_get (D := G.1) (ci := 8) (v := .int (C_9.1 0)) (C := RX7) (T := TX7) (N := 24) hx hb hts in_wsX7_addFeature_X7 hown hK.1 hP 0 rfl rfl 16 (by decide) (w_mem hts 1 rfl) (fun _ h9 => h9) rfl dX7_addFeature_103 ?_
    refine lv_iconst (v := 1) hx hb dX7_addFeature_106 (by decide) ?_
    refine lv_isub hx hb dX7_addFeature_107 ?_
    exact MQi.end hx hb hr hlocks hP hS dX7_addFeature_108 rfl h
  · have h := br_F h c_56
    refine lv_iconst (v := 0) hx hb dX7_addFeature_59 (by decide) ?_
    exact MQi.end hx hb hr hlocks hP hS dX7_addFeature_60 rfl h

set_option maxHeartbeats 4000000 in
set_option maxRecDepth 100000 in
theorem wX7_addFeature_30 {p : Program} {l : Launch} {e : Env} {s : State} {m : MethodId} {args : Array Value} {below : List Frame} {meth : Method} {c : Code} {G : GT} {q : Nat → Nat} {A : Nat → Prop} {out : Int32 × St} (bx : BX p RX7 wsX7_addFeature cX7_addFeature 3 (some .int) s m args meth c) (hA : ∀ q : Nat, s.heap.size ≤ q → A q) (hK : CK G s) (C : St) (x1 : Int32) (x2 : Int32) (t1 : Int32) (h : pX7_addFeature_30 C x1 x2 t1 = some out) {H : Heap} {locs : List Loc} (hP : va_P G.1 vwCl (MW G q C) H) (hD : va_D A (MW G q C)) (hS : va_S A s.heap H locs) (ls : Array Slot) (hl : lv_has ls 3 [(0, .ref (q 0)), (1, .int x1), (2, .int x2)]) : W p l e rmX7_addFeature s m args below meth c H locs 0 0 (MQi G (MW G q) A s args below out) (F0 m 30 ls [.int t1, .ref (q 0)]) := by
  obtain ⟨hx, hb, hr, hts, hown, hml, hlocks⟩ := id bx
  unfold pX7_addFeature_30 at h
  refine lv_iconst (v := 2) hx hb dX7_addFeature_30 (by decide) ?_
  obtain ⟨u_4, hu_4, h⟩ := bd_ex h
  refine wr_i (Wd := MW G q) (va_runV (As := [.int t1, .int 2]) (rest := []) ⟨hx, hb, hml, hown, hts⟩ (kX7_isThrown l G q C _ t1 2 u_4 hu_4) (cwV 2 hts gX7_addFeature_X7_isThrown rfl rfl rfl (by decide +kernel) ⟨Nat.le_of_ble_eq_true rfl, Nat.le_of_ble_eq_true rfl⟩) (wrV hP hD hK 8 0 rfl rfl) rfl rfl hl.1 rfl (lv_room (Nat.le_of_ble_eq_true rfl)) dX7_addFeature_31 ⟨Nat.zero_le _, Nat.zero_le _⟩) hD hS hA (fun _ => rfl) (fun H locs hP hD hS => ?_)
  refine lv_if_ne (tgt := 59) hx hb dX7_addFeature_34 (by decide) (fun c_34 => ?_) (fun c_34 => ?_)
  · have h := br_F h c_34
    refine lv_iconst (v := 0) hx hb dX7_addFeature_59 (by decide) ?_
    exact MQi.end hx hb hr hlocks hP hS dX7_addFeature_60 rfl h
  · have h := br_T h c_34
    refine lv_aload_n hx hb dX7_addFeature_37 rfl (lv_at hl 0 rfl) ?_
    refine lv_aload_n hx hb dX7_addFeature_38 rfl (lv_at hl 0 rfl) ?_
    refine va_get (D := G.1) (ci := 8) (v := .int (u_4.2.1 0)) (C := RX7) (T := TX7) (N := 24) hx hb hts in_wsX7_addFeature_X7 hown hK.1 hP 0 rfl rfl 16 (by decide) (w_mem hts 1 rfl) (fun _ h9 => h9) rfl dX7_addFeature_39 ?_
    refine lv_bipush (v := 12) hx hb dX7_addFeature_42 (by decide) ?_
    refine lv_icmp_ne (tgt := 51) hx hb dX7_addFeature_44 (by decide) (fun c_44 => ?_) (fun c_44 => ?_)
    · have h := br_F h c_44
      refine lv_iconst (v := 0) hx hb dX7_addFeature_51 (by decide) ?_
      exact wX7_addFeature_52 bx hA hK u_4.2 x1 x2 0 h hP hD hS _ (lv_sub hl [0, 1, 2] rfl)
    · have h := br_T h c_44
      refine lv_iconst (v := 1) hx hb dX7_addFeature_47 (by decide) ?_
      refine lv_goto (tgt := 52) hx hb dX7_addFeature_48 (by decide) ?_
      exact wX7_addFeature_52 bx hA hK u_4.2 x1 x2 1 h hP hD hS _ (lv_sub hl [0, 1, 2] rfl)

set_option maxHeartbeats 4000000 in
set_option maxRecDepth 100000 in
theorem kX7_addFeature (l : Launch) (G : GT) (q : Nat → Nat) (C : St) (sz : Nat) (x1 : Int32) (x2 : Int32) (r : Int32 × St) (h : pX7_addFeature C x1 x2 = some r) : Met l yX7_addFeature wsX7_addFeature rmX7_addFeature (va_Pc [.ref (q 0), .int x1, .int x2] (wrP G (MW G q C) sz)) (va_Qi (fun v u => (v, u) = r) (fun u t => va_P G.1 vwCl (MW G q u) t.heap) (va_A (MW G q C) sz)) 0 0 (va_A (MW G q C) sz) := by
  refine Met.ofW (cc := cX7_addFeature) (maxL := 3) (ret := (some .int)) (by decide) rfl ?_
  intro p e s m args below meth c s₁ B hml hv
  obtain ⟨rfl, hsz, hP, hK, hD0⟩ := hv
  have bx := bx_of B hml
  subst hsz
  have hD := hD0.self (sz := s.heap.size)
  generalize hAe : va_A (MW G q C) s.heap.size = A at hD ⊢
  have hA : ∀ q : Nat, s.heap.size ≤ q → A q := fun q h => by rw [← hAe]; exact Or.inr h
  have hS : va_S A s.heap s.heap [] := va_S.rf
  obtain ⟨hx, hb, hr, hts, hown, hml, hlocks⟩ := id bx
  have hl := lv_entry ([.ref (q 0), .int x1, .int x2]) (n := 3) (Nat.le_of_ble_eq_true rfl)
  rw [lg_entry_eq]
  generalize (lg_sl ([.ref (q 0), .int x1, .int x2]) ++ List.replicate (3 - (lg_sl ([.ref (q 0), .int x1, .int x2])).length) Slot.unset).toArray = ls at hl ⊢
  have hl : lv_has ls 3 [(0, .ref (q 0)), (1, .int x1), (2, .int x2)] := hl
  show W p l e rmX7_addFeature s m _ below meth c s.heap [] 0 0 (MQi G (MW G q) A s _ below r) (F0 m 0 ls [])
  unfold pX7_addFeature at h
  refine lv_aload_n hx hb dX7_addFeature_0 rfl (lv_at hl 0 rfl) ?_
  refine lv_aload_n hx hb dX7_addFeature_1 rfl (lv_at hl 0 rfl) ?_
  refine lv_iload_n hx hb dX7_addFeature_2 rfl (lv_at hl 1 rfl) ?_
  obtain ⟨r_1, hr_1, h⟩ := bd_ex h
  refine ro_i (va_runV (As := [.int x1]) (rest := [.ref (q 0)]) ⟨hx, hb, hml, hown, hts⟩ (kX7_isNone l G q C x1 r_1 hr_1) (cwV 1 hts gX7_addFeature_X7_isNone rfl rfl rfl (by decide +kernel) ⟨Nat.le_of_ble_eq_true rfl, Nat.le_of_ble_eq_true rfl⟩) (roV hP hK 8 0 rfl rfl) rfl rfl hl.1 rfl (lv_room (Nat.le_of_ble_eq_true rfl)) dX7_addFeature_3 ⟨Nat.zero_le _, Nat.zero_le _⟩) ?_
  refine lv_iconst (v := 1) hx hb dX7_addFeature_6 (by decide) ?_
  obtain ⟨u_2, hu_2, h⟩ := bd_ex h
  refine wr_i (Wd := MW G q) (va_runV (As := [.int r_1, .int 1]) (rest := []) ⟨hx, hb, hml, hown, hts⟩ (kX7_isThrown l G q C _ r_1 1 u_2 hu_2) (cwV 2 hts gX7_addFeature_X7_isThrown rfl rfl rfl (by decide +kernel) ⟨Nat.le_of_ble_eq_true rfl, Nat.le_of_ble_eq_true rfl⟩) (wrV hP hD hK 8 0 rfl rfl) rfl rfl hl.1 rfl (lv_room (Nat.le_of_ble_eq_true rfl)) dX7_addFeature_7 ⟨Nat.zero_le _, Nat.zero_le _⟩) hD hS hA (fun _ => rfl) (fun H locs hP hD hS => ?_)
  refine lv_if_ne (tgt := 59) hx hb dX7_addFeature_10 (by decide) (fun c_10 => ?_) (fun c_10 => ?_)
  · have h := br_F h c_10
    refine lv_iconst (v := 0) hx hb dX7_addFeature_59 (by decide) ?_
    exact MQi.end hx hb hr hlocks hP hS dX7_addFeature_60 rfl h
  · have h := br_T h c_10
    refine lv_aload_n hx hb dX7_addFeature_13 rfl (lv_at hl 0 rfl) ?_
    refine lv_iload_n hx hb dX7_addFeature_14 rfl (lv_at hl 2 rfl) ?_
    refine lv_iconst (v := 0) hx hb dX7_addFeature_15 (by decide) ?_
    refine lv_sipush (v := 999) hx hb dX7_addFeature_16 (by decide) ?_
    obtain ⟨r_3, hr_3, h⟩ := bd_ex h
    refine ro_i (va_runS (As := [.int x2, .int 0, .int 999]) (rest := [.ref (q 0)]) ⟨hx, hb, hml, hown, hts⟩ (kX7_isIn l G q u_2.2 x2 0 999 r_3 hr_3) (va_cwS 3 hts gX7_addFeature_X7_isIn rfl rfl rfl (by decide +kernel) ⟨Nat.le_of_ble_eq_true rfl, Nat.le_of_ble_eq_true rfl⟩) (roS hP hK) rfl rfl hl.1 rfl (lv_room (Nat.le_of_ble_eq_true rfl)) dX7_addFeature_19 ⟨Nat.zero_le _, Nat.zero_le _⟩) ?_
    refine lv_if_ne (tgt := 29) hx hb dX7_addFeature_22 (by decide) (fun c_22 => ?_) (fun c_22 => ?_)
    · have h := br_F h c_22
      refine lv_iconst (v := 0) hx hb dX7_addFeature_29 (by decide) ?_
      exact wX7_addFeature_30 bx hA hK u_2.2 x1 x2 0 h hP hD hS _ (lv_sub hl [0, 1, 2] rfl)
    · have h := br_T h c_22
      refine lv_iconst (v := 1) hx hb dX7_addFeature_25 (by decide) ?_
      refine lv_goto (tgt := 30) hx hb dX7_addFeature_26 (by decide) ?_
      exact wX7_addFeature_30 bx hA hK u_2.2 x1 x2 1 h hP hD hS _ (lv_sub hl [0, 1, 2] rfl)

def rmX7_setMandatory : Room := { frames := 5, cells := 0, slots := 0, locals := 110 }

theorem in_wsX7_setMandatory_X7 : ∀ w ∈ u_ws RX7 TX7 24, w ∈ wsX7_setMandatory := by decide +kernel

set_option maxHeartbeats 4000000 in
set_option maxRecDepth 100000 in
theorem wX7_setMandatory_23 {p : Program} {l : Launch} {e : Env} {s : State} {m : MethodId} {args : Array Value} {below : List Frame} {meth : Method} {c : Code} {G : GT} {q : Nat → Nat} {A : Nat → Prop} {out : Int32 × St} (bx : BX p RX7 wsX7_setMandatory cX7_setMandatory 4 (some .boolean) s m args meth c) (hA : ∀ q : Nat, s.heap.size ≤ q → A q) (hK : CK G s) (C : St) (x1 : Int32) (x2 : Int32) (t1 : Int32) (h : pX7_setMandatory_23 C x1 x2 t1 = some out) {H : Heap} {locs : List Loc} (hP : va_P G.1 vwCl (MW G q C) H) (hD : va_D A (MW G q C)) (hS : va_S A s.heap H locs) (ls : Array Slot) (hl : lv_has ls 4 [(0, .ref (q 0)), (1, .int x1), (2, .int x2)]) : W p l e rmX7_setMandatory s m args below meth c H locs 0 0 (MQi G (MW G q) A s args below out) (F0 m 23 ls [.int t1, .ref (q 0)]) := by
  obtain ⟨hx, hb, hr, hts, hown, hml, hlocks⟩ := id bx
  unfold pX7_setMandatory_23 at h
  refine lv_iconst (v := 2) hx hb dX7_setMandatory_23 (by decide) ?_
  obtain ⟨u_3, hu_3, h⟩ := bd_ex h
  refine wr_i (Wd := MW G q) (va_runV (As := [.int t1, .int 2]) (rest := []) ⟨hx, hb, hml, hown, hts⟩ (kX7_isThrown l G q C _ t1 2 u_3 hu_3) (cwV 2 hts gX7_setMandatory_X7_isThrown rfl rfl rfl (by decide +kernel) ⟨Nat.le_of_ble_eq_true rfl, Nat.le_of_ble_eq_true rfl⟩) (wrV hP hD hK 8 0 rfl rfl) rfl rfl hl.1 rfl (lv_room (Nat.le_of_ble_eq_true rfl)) dX7_setMandatory_24 ⟨Nat.zero_le _, Nat.zero_le _⟩) hD hS hA (fun _ => rfl) (fun H locs hP hD hS => ?_)
  refine lv_if_eq (tgt := 32) hx hb dX7_setMandatory_27 (by decide) (fun c_27 => ?_) (fun c_27 => ?_)
  · have h := br_T h c_27
    refine lv_aload_n hx hb dX7_setMandatory_32 rfl (lv_at hl 0 rfl) ?_
    refine va_get (D := G.1) (ci := 8) (v := .ref (q 5)) (C := RX7) (T := TX7) (N := 24) hx hb hts in_wsX7_setMandatory_X7 hown hK.1 hP 0 rfl rfl 4 (by decide) (w_mem hts 1 rfl) (fun _ h9 => h9) rfl dX7_setMandatory_33 ?_
    refine lv_iload_n hx hb dX7_setMandatory_36 rfl (lv_at hl 1 rfl) ?_
    obtain ⟨g37, h⟩ := gd_ex h
    refine va_zald (D := G.1) hx hb hK.1 hP 5 2 rfl rfl g37 dX7_setMandatory_37 ?_
    refine lv_topi (fun v_4 ev_4 => ?_)
    have h := ltv_at h v_4 ev_4
    refine lv_istore_n (lv' := [(3, .int v_4), (0, .ref (q 0)), (1, .int x1), (2, .int x2)]) hx hb dX7_setMandatory_38 rfl hl (by decide) rfl (fun ls hl => ?_)
    refine lv_aload_n hx hb dX7_setMandatory_39 rfl (lv_at hl 1 rfl) ?_
    refine va_get (D := G.1) (ci := 8) (v := .ref (q 5)) (C := RX7) (T := TX7) (N := 24) hx hb hts in_wsX7_setMandatory_X7 hown hK.1 hP 0 rfl rfl 4 (by decide) (w_mem hts 1 rfl) (fun _ h9 => h9) rfl dX7_setMandatory_40 ?_
    refine lv_iload_n hx hb dX7_setMandatory_43 rfl (lv_at hl 2 rfl) ?_
    refine lv_iload_n hx hb dX7_setMandatory_44 rfl (lv_at hl 3 rfl) ?_
    obtain ⟨g45, h⟩ := gd_ex h
    refine va_zast (D := G.1) hx hb hK.1 hP hD hS 5 2 rfl rfl g45 dX7_setMandatory_45 (fun H locs hP hD hS => ?_)
    have hP : va_P G.1 vwCl (MW G q (sA u_3.2 4 x1.toNatClampNeg (vp_nar .boolean x2))) H := hP
    have hD : va_D A (MW G q (sA u_3.2 4 x1.toNatClampNeg (vp_nar .boolean x2))) := hD
    obtain ⟨C_5, eC_5, h⟩ := ltv_ex h
    rw [← eC_5] at hP hD
    refine lv_aload_n hx hb dX7_setMandatory_46 rfl (lv_at hl 1 rfl) ?_
    refine lv_aload_n hx hb dX7_setMandatory_47 rfl (lv_at hl 1 rfl) ?_
    obtain ⟨r_6, hr_6, h⟩ := bd_ex h
    refine ro_i (va_runV (As := []) (rest := [.ref (q 0)]) ⟨hx, hb, hml, hown, hts⟩ (kX7_isNoneLeft l G q C_5 r_6 hr_6) (cwV 0 hts gX7_setMandatory_X7_isNoneLeft rfl rfl rfl (by decide +kernel) ⟨Nat.le_of_ble_eq_true rfl, Nat.le_of_ble_eq_true rfl⟩) (roV hP hK 8 0 rfl rfl) rfl rfl hl.1 rfl (lv_room (Nat.le_of_ble_eq_true rfl)) dX7_setMandatory_48 ⟨Nat.zero_le _, Nat.zero_le _⟩) ?_
    refine lv_iconst (v := 3) hx hb dX7_setMandatory_51 (by decide) ?_
    obtain ⟨u_7, hu_7, h⟩ := bd_ex h
    refine wr_i (Wd := MW G q) (va_runV (As := [.int r_6, .int 3]) (rest := []) ⟨hx, hb, hml, hown, hts⟩ (kX7_isThrown l G q C_5 _ r_6 3 u_7 hu_7) (cwV 2 hts gX7_setMandatory_X7_isThrown rfl rfl rfl (by decide +kernel) ⟨Nat.le_of_ble_eq_true rfl, Nat.le_of_ble_eq_true rfl⟩) (wrV hP hD hK 8 0 rfl rfl) rfl rfl hl.1 rfl (lv_room (Nat.le_of_ble_eq_true rfl)) dX7_setMandatory_52 ⟨Nat.zero_le _, Nat.zero_le _⟩) hD hS hA (fun _ => rfl) (fun H locs hP hD hS => ?_)
    refine lv_if_eq (tgt := 65) hx hb dX7_setMandatory_55 (by decide) (fun c_55 => ?_) (fun c_55 => ?_)
    · have h := br_T h c_55
      refine lv_iload_n hx hb dX7_setMandatory_65 rfl (lv_at hl 0 rfl) ?_
      obtain ⟨g66, h⟩ := gd_ex h
      exact MQi.end hx hb hr hlocks hP hS dX7_setMandatory_66 (okZ_n g66) h
    · have h := br_F h c_55
      refine lv_aload_n hx hb dX7_setMandatory_58 rfl (lv_at hl 1 rfl) ?_
      refine va_get (D := G.1) (ci := 8) (v := .ref (q 5)) (C := RX7) (T := TX7) (N := 24) hx hb hts in_wsX7_setMandatory_X7 hown hK.1 hP 0 rfl rfl 4 (by decide) (w_mem hts 1 rfl) (fun _ h9 => h9) rfl dX7_setMandatory_59 ?_
      refine lv_iload_n hx hb dX7_setMandatory_62 rfl (lv_at hl 2 rfl) ?_
      refine lv_iload_n hx hb dX7_setMandatory_63 rfl (lv_at hl 0 rfl) ?_
      obtain ⟨g64, h⟩ := gd_ex h
      refine va_zast (D := G.1) hx hb hK.1 hP hD hS 5 2 rfl rfl g64 dX7_setMandatory_64 (fun H locs hP hD hS => ?_)
      have hP : va_P G.1 vwCl (MW G q (sA u_7.2 4 x1.toNatClampNeg (vp_nar .boolean v_4))) H := hP
      have hD : va_D A (MW G q (sA u_7.2 4 x1.toNatClampNeg (vp_nar .boolean v_4))) := hD
      obtain ⟨C_8, eC_8, h⟩ := ltv_ex h
      rw [← eC_8] at hP hD
      refine lv_iload_n hx hb dX7_setMandatory_65 rfl (lv_at hl 0 rfl) ?_
      obtain ⟨g66, h⟩ := gd_ex h
      exact MQi.end hx hb hr hlocks hP hS dX7_setMandatory_66 (okZ_n g66) h
  · have h := br_F h c_27
    refine lv_iconst (v := 0) hx hb dX7_setMandatory_30 (by decide) ?_
    exact MQi.end hx hb hr hlocks hP hS dX7_setMandatory_31 rfl h

set_option maxHeartbeats 4000000 in
set_option maxRecDepth 100000 in
theorem kX7_setMandatory (l : Launch) (G : GT) (q : Nat → Nat) (C : St) (sz : Nat) (x1 : Int32) (x2 : Int32) (r : Int32 × St) (h : pX7_setMandatory C x1 x2 = some r) : Met l yX7_setMandatory wsX7_setMandatory rmX7_setMandatory (va_Pc [.ref (q 0), .int x1, .int x2] (wrP G (MW G q C) sz)) (va_Qi (fun v u => (v, u) = r) (fun u t => va_P G.1 vwCl (MW G q u) t.heap) (va_A (MW G q C) sz)) 0 0 (va_A (MW G q C) sz) := by
  refine Met.ofW (cc := cX7_setMandatory) (maxL := 4) (ret := (some .boolean)) (by decide) rfl ?_
  intro p e s m args below meth c s₁ B hml hv
  obtain ⟨rfl, hsz, hP, hK, hD0⟩ := hv
  have bx := bx_of B hml
  subst hsz
  have hD := hD0.self (sz := s.heap.size)
  generalize hAe : va_A (MW G q C) s.heap.size = A at hD ⊢
  have hA : ∀ q : Nat, s.heap.size ≤ q → A q := fun q h => by rw [← hAe]; exact Or.inr h
  have hS : va_S A s.heap s.heap [] := va_S.rf
  obtain ⟨hx, hb, hr, hts, hown, hml, hlocks⟩ := id bx
  have hl := lv_entry ([.ref (q 0), .int x1, .int x2]) (n := 4) (Nat.le_of_ble_eq_true rfl)
  rw [lg_entry_eq]
  generalize (lg_sl ([.ref (q 0), .int x1, .int x2]) ++ List.replicate (4 - (lg_sl ([.ref (q 0), .int x1, .int x2])).length) Slot.unset).toArray = ls at hl ⊢
  have hl : lv_has ls 4 [(0, .ref (q 0)), (1, .int x1), (2, .int x2)] := hl
  show W p l e rmX7_setMandatory s m _ below meth c s.heap [] 0 0 (MQi G (MW G q) A s _ below r) (F0 m 0 ls [])
  unfold pX7_setMandatory at h
  refine lv_aload_n hx hb dX7_setMandatory_0 rfl (lv_at hl 0 rfl) ?_
  refine lv_aload_n hx hb dX7_setMandatory_1 rfl (lv_at hl 0 rfl) ?_
  refine lv_iload_n hx hb dX7_setMandatory_2 rfl (lv_at hl 1 rfl) ?_
  obtain ⟨r_1, hr_1, h⟩ := bd_ex h
  refine ro_i (va_runV (As := [.int x1]) (rest := [.ref (q 0)]) ⟨hx, hb, hml, hown, hts⟩ (kX7_isNone l G q C x1 r_1 hr_1) (cwV 1 hts gX7_setMandatory_X7_isNone rfl rfl rfl (by decide +kernel) ⟨Nat.le_of_ble_eq_true rfl, Nat.le_of_ble_eq_true rfl⟩) (roV hP hK 8 0 rfl rfl) rfl rfl hl.1 rfl (lv_room (Nat.le_of_ble_eq_true rfl)) dX7_setMandatory_3 ⟨Nat.zero_le _, Nat.zero_le _⟩) ?_
  refine lv_iconst (v := 1) hx hb dX7_setMandatory_6 (by decide) ?_
  obtain ⟨u_2, hu_2, h⟩ := bd_ex h
  refine wr_i (Wd := MW G q) (va_runV (As := [.int r_1, .int 1]) (rest := []) ⟨hx, hb, hml, hown, hts⟩ (kX7_isThrown l G q C _ r_1 1 u_2 hu_2) (cwV 2 hts gX7_setMandatory_X7_isThrown rfl rfl rfl (by decide +kernel) ⟨Nat.le_of_ble_eq_true rfl, Nat.le_of_ble_eq_true rfl⟩) (wrV hP hD hK 8 0 rfl rfl) rfl rfl hl.1 rfl (lv_room (Nat.le_of_ble_eq_true rfl)) dX7_setMandatory_7 ⟨Nat.zero_le _, Nat.zero_le _⟩) hD hS hA (fun _ => rfl) (fun H locs hP hD hS => ?_)
  refine lv_if_ne (tgt := 30) hx hb dX7_setMandatory_10 (by decide) (fun c_10 => ?_) (fun c_10 => ?_)
  · have h := br_F h c_10
    refine lv_iconst (v := 0) hx hb dX7_setMandatory_30 (by decide) ?_
    exact MQi.end hx hb hr hlocks hP hS dX7_setMandatory_31 rfl h
  · have h := br_T h c_10
    refine lv_aload_n hx hb dX7_setMandatory_13 rfl (lv_at hl 0 rfl) ?_
    refine lv_iload_n hx hb dX7_setMandatory_14 rfl (lv_at hl 1 rfl) ?_
    refine lv_if_ne (tgt := 22) hx hb dX7_setMandatory_15 (by decide) (fun c_15 => ?_) (fun c_15 => ?_)
    · have h := br_F h c_15
      refine lv_iconst (v := 0) hx hb dX7_setMandatory_22 (by decide) ?_
      exact wX7_setMandatory_23 bx hA hK u_2.2 x1 x2 0 h hP hD hS _ (lv_sub hl [0, 1, 2] rfl)
    · have h := br_T h c_15
      refine lv_iconst (v := 1) hx hb dX7_setMandatory_18 (by decide) ?_
      refine lv_goto (tgt := 23) hx hb dX7_setMandatory_19 (by decide) ?_
      exact wX7_setMandatory_23 bx hA hK u_2.2 x1 x2 1 h hP hD hS _ (lv_sub hl [0, 1, 2] rfl)

def rmX7_setGroup : Room := { frames := 5, cells := 0, slots := 0, locals := 110 }

theorem in_wsX7_setGroup_X7 : ∀ w ∈ u_ws RX7 TX7 24, w ∈ wsX7_setGroup := by decide +kernel

set_option maxHeartbeats 4000000 in
set_option maxRecDepth 100000 in
theorem wX7_setGroup_133 {p : Program} {l : Launch} {e : Env} {s : State} {m : MethodId} {args : Array Value} {below : List Frame} {meth : Method} {c : Code} {G : GT} {q : Nat → Nat} {A : Nat → Prop} {out : Int32 × St} (bx : BX p RX7 wsX7_setGroup cX7_setGroup 8 (some .int) s m args meth c) (hA : ∀ q : Nat, s.heap.size ≤ q → A q) (hK : CK G s) {k106 : St → Int32 → Int32 → Int32 → Option (Int32 × St)} (hk106 : ∀ (C : St) (x1 : Int32) (x6 : Int32) (x7 : Int32), k106 C x1 x6 x7 = some out → ∀ (H : Heap) (locs : List Loc) (hP : va_P G.1 vwCl (MW G q C) H) (hD : va_D A (MW G q C)) (hS : va_S A s.heap H locs), ∀ (ls : Array Slot), lv_has ls 8 [(0, .ref (q 0)), (1, .int x1), (6, .int x6), (7, .int x7)] → W p l e rmX7_setGroup s m args below meth c H locs 0 0 (MQi G (MW G q) A s args below out) (F0 m 106 ls [])) (C : St) (x1 : Int32) (x7 : Int32) (t0 : Int32) (t1 : Int32) (h : pX7_setGroup_133 k106 C x1 x7 t0 t1 = some out) {H : Heap} {locs : List Loc} (hP : va_P G.1 vwCl (MW G q C) H) (hD : va_D A (MW G q C)) (hS : va_S A s.heap H locs) (ls : Array Slot) (hl : lv_has ls 8 [(0, .ref (q 0)), (1, .int x1), (7, .int x7)]) : W p l e rmX7_setGroup s m args below meth c H locs 0 0 (MQi G (MW G q) A s args below out) (F0 m 133 ls [.int t1, .int t0]) := by
  obtain ⟨hx, hb, hr, hts, hown, hml, hlocks⟩ := id bx
  unfold pX7_setGroup_133 at h
  refine lv_iadd hx hb dX7_setGroup_133 ?_
  refine lv_topi (fun v_10 ev_10 => ?_)
  have h := ltv_at h v_10 ev_10
  refine lv_istore (lv' := [(6, .int v_10), (0, .ref (q 0)), (1, .int x1), (7, .int x7)]) hx hb dX7_setGroup_134 hl (by decide) rfl (fun ls hl => ?_)
  obtain ⟨v_11, ev_11, h⟩ := ltv_ex h
  refine lv_iinc (v := v_11) (lv' := [(7, .int v_11), (6, .int v_10), (0, .ref (q 0)), (1, .int x1)]) hx hb dX7_setGroup_136 hl (k := 3) rfl (by rw [ev_11]; rfl) (by decide) rfl (fun ls hl => ?_)
  refine lv_goto (tgt := 106) hx hb dX7_setGroup_139 (by decide) ?_
  exact hk106 C x1 v_10 v_11 h _ _ hP hD hS _ (lv_sub hl [2, 3, 1, 0] rfl)

set_option maxHeartbeats 4000000 in
set_option maxRecDepth 100000 in
theorem wX7_setGroup_106_b {p : Program} {l : Launch} {e : Env} {s : State} {m : MethodId} {args : Array Value} {below : List Frame} {meth : Method} {c : Code} {G : GT} {q : Nat → Nat} {A : Nat → Prop} {out : Int32 × St} (bx : BX p RX7 wsX7_setGroup cX7_setGroup 8 (some .int) s m args meth c) (hA : ∀ q : Nat, s.heap.size ≤ q → A q) (hK : CK G s) {k106 : St → Int32 → Int32 → Int32 → Option (Int32 × St)} (hk106 : ∀ (C : St) (x1 : Int32) (x6 : Int32) (x7 : Int32), k106 C x1 x6 x7 = some out → ∀ (H : Heap) (locs : List Loc) (hP : va_P G.1 vwCl (MW G q C) H) (hD : va_D A (MW G q C)) (hS : va_S A s.heap H locs), ∀ (ls : Array Slot), lv_has ls 8 [(0, .ref (q 0)), (1, .int x1), (6, .int x6), (7, .int x7)] → W p l e rmX7_setGroup s m args below meth c H locs 0 0 (MQi G (MW G q) A s args below out) (F0 m 106 ls [])) (C : St) (x1 : Int32) (x6 : Int32) (x7 : Int32) (h : pX7_setGroup_106_b k106 C x1 x6 x7 = some out) {H : Heap} {locs : List Loc} (hP : va_P G.1 vwCl (MW G q C) H) (hD : va_D A (MW G q C)) (hS : va_S A s.heap H locs) (ls : Array Slot) (hl : lv_has ls 8 [(0, .ref (q 0)), (1, .int x1), (6, .int x6), (7, .int x7)]) : W p l e rmX7_setGroup s m args below meth c H locs 0 0 (MQi G (MW G q) A s args below out) (F0 m 106 ls []) := by
  obtain ⟨hx, hb, hr, hts, hown, hml, hlocks⟩ := id bx
  unfold pX7_setGroup_106_b at h
  refine lv_iload hx hb dX7_setGroup_106 (lv_at hl 3 rfl) ?_
  refine lv_aload_n hx hb dX7_setGroup_108 rfl (lv_at hl 0 rfl) ?_
  refine va_get (D := G.1) (ci := 8) (v := .int (C.1 0)) (C := RX7) (T := TX7) (N := 24) hx hb hts in_wsX7_setGroup_X7 hown hK.1 hP 0 rfl rfl 16 (by decide) (w_mem hts 3 rfl) (fun _ h9 => h9) rfl dX7_setGroup_109 ?_
  refine lv_icmp_ge (tgt := 142) hx hb dX7_setGroup_112 (by decide) (fun c_112 => ?_) (fun c_112 => ?_)
  · have h := br_T h c_112
    refine lv_iload hx hb dX7_setGroup_142 (lv_at hl 2 rfl) ?_
    exact MQi.end hx hb hr hlocks hP hS dX7_setGroup_144 rfl h
  · have h := br_F h c_112
    refine lv_iload hx hb dX7_setGroup_115 (lv_at hl 2 rfl) ?_
    refine lv_aload_n hx hb dX7_setGroup_117 rfl (lv_at hl 0 rfl) ?_
    refine va_get (D := G.1) (ci := 8) (v := .ref (q 1)) (C := RX7) (T := TX7) (N := 24) hx hb hts in_wsX7_setGroup_X7 hown hK.1 hP 0 rfl rfl 0 (by decide) (w_mem hts 4 rfl) (fun _ h9 => h9) rfl dX7_setGroup_118 ?_
    refine lv_iload hx hb dX7_setGroup_121 (lv_at hl 3 rfl) ?_
    obtain ⟨g123, h⟩ := gd_ex h
    refine va_iald (D := G.1) hx hb hK.1 hP 1 0 rfl rfl g123 dX7_setGroup_123 ?_
    refine lv_iload_n hx hb dX7_setGroup_124 rfl (lv_at hl 1 rfl) ?_
    refine lv_icmp_ne (tgt := 132) hx hb dX7_setGroup_125 (by decide) (fun c_125 => ?_) (fun c_125 => ?_)
    · have h := br_F h c_125
      refine lv_iconst (v := 0) hx hb dX7_setGroup_132 (by decide) ?_
      exact wX7_setGroup_133 bx hA hK hk106 C x1 x7 x6 0 h hP hD hS _ (lv_sub hl [0, 1, 3] rfl)
    · have h := br_T h c_125
      refine lv_iconst (v := 1) hx hb dX7_setGroup_128 (by decide) ?_
      refine lv_goto (tgt := 133) hx hb dX7_setGroup_129 (by decide) ?_
      exact wX7_setGroup_133 bx hA hK hk106 C x1 x7 x6 1 h hP hD hS _ (lv_sub hl [0, 1, 3] rfl)

theorem wX7_setGroup_106 {p : Program} {l : Launch} {e : Env} {s : State} {m : MethodId} {args : Array Value} {below : List Frame} {meth : Method} {c : Code} {G : GT} {q : Nat → Nat} {A : Nat → Prop} {out : Int32 × St} (bx : BX p RX7 wsX7_setGroup cX7_setGroup 8 (some .int) s m args meth c) (hA : ∀ q : Nat, s.heap.size ≤ q → A q) (hK : CK G s) :
    ∀ (n : Nat) (C : St) (x1 : Int32) (x6 : Int32) (x7 : Int32), pX7_setGroup_106 n C x1 x6 x7 = some out → ∀ (H : Heap) (locs : List Loc) (hP : va_P G.1 vwCl (MW G q C) H) (hD : va_D A (MW G q C)) (hS : va_S A s.heap H locs), ∀ (ls : Array Slot), lv_has ls 8 [(0, .ref (q 0)), (1, .int x1), (6, .int x6), (7, .int x7)] → W p l e rmX7_setGroup s m args below meth c H locs 0 0 (MQi G (MW G q) A s args below out) (F0 m 106 ls []) := by
  intro n
  induction n with
  | zero => intro _ _ _ _ h; cases h
  | succ n ih => exact fun a0 a1 a2 a3 h _ _ hP hD hS ls hl => wX7_setGroup_106_b bx hA hK ih a0 a1 a2 a3 h hP hD hS ls hl

set_option maxHeartbeats 4000000 in
set_option maxRecDepth 100000 in
theorem wX7_setGroup_100 {p : Program} {l : Launch} {e : Env} {s : State} {m : MethodId} {args : Array Value} {below : List Frame} {meth : Method} {c : Code} {G : GT} {q : Nat → Nat} {A : Nat → Prop} {out : Int32 × St} (bx : BX p RX7 wsX7_setGroup cX7_setGroup 8 (some .int) s m args meth c) (hA : ∀ q : Nat, s.heap.size ≤ q → A q) (hK : CK G s) (C : St) (x1 : Int32) (h : pX7_setGroup_100 C x1 = some out) {H : Heap} {locs : List Loc} (hP : va_P G.1 vwCl (MW G q C) H) (hD : va_D A (MW G q C)) (hS : va_S A s.heap H locs) (ls : Array Slot) (hl : lv_has ls 8 [(0, .ref (q 0)), (1, .int x1)]) : W p l e rmX7_setGroup s m args below meth c H locs 0 0 (MQi G (MW G q) A s args below out) (F0 m 100 ls []) := by
  obtain ⟨hx, hb, hr, hts, hown, hml, hlocks⟩ := id bx
  unfold pX7_setGroup_100 at h
  refine lv_iconst (v := 0) hx hb dX7_setGroup_100 (by decide) ?_
  refine lv_istore (lv' := [(6, .int 0), (0, .ref (q 0)), (1, .int x1)]) hx hb dX7_setGroup_101 hl (by decide) rfl (fun ls hl => ?_)
  refine lv_iconst (v := 1) hx hb dX7_setGroup_103 (by decide) ?_
  refine lv_istore (lv' := [(7, .int 1), (6, .int 0), (0, .ref (q 0)), (1, .int x1)]) hx hb dX7_setGroup_104 hl (by decide) rfl (fun ls hl => ?_)
  exact wX7_setGroup_106 bx hA hK FU C x1 0 1 h _ _ hP hD hS _ (lv_sub hl [2, 3, 1, 0] rfl)

set_option maxHeartbeats 4000000 in
set_option maxRecDepth 100000 in
theorem wX7_setGroup_33 {p : Program} {l : Launch} {e : Env} {s : State} {m : MethodId} {args : Array Value} {below : List Frame} {meth : Method} {c : Code} {G : GT} {q : Nat → Nat} {A : Nat → Prop} {out : Int32 × St} (bx : BX p RX7 wsX7_setGroup cX7_setGroup 8 (some .int) s m args meth c) (hA : ∀ q : Nat, s.heap.size ≤ q → A q) (hK : CK G s) (C : St) (x1 : Int32) (x2 : Int32) (x3 : Int32) (t1 : Int32) (h : pX7_setGroup_33 C x1 x2 x3 t1 = some out) {H : Heap} {locs : List Loc} (hP : va_P G.1 vwCl (MW G q C) H) (hD : va_D A (MW G q C)) (hS : va_S A s.heap H locs) (ls : Array Slot) (hl : lv_has ls 8 [(0, .ref (q 0)), (1, .int x1), (2, .int x2), (3, .int x3)]) : W p l e rmX7_setGroup s m args below meth c H locs 0 0 (MQi G (MW G q) A s args below out) (F0 m 33 ls [.int t1, .ref (q 0)]) := by
  obtain ⟨hx, hb, hr, hts, hown, hml, hlocks⟩ := id bx
  unfold pX7_setGroup_33 at h
  refine lv_iconst (v := 2) hx hb dX7_setGroup_33 (by decide) ?_
  obtain ⟨u_3, hu_3, h⟩ := bd_ex h
  refine wr_i (Wd := MW G q) (va_runV (As := [.int t1, .int 2]) (rest := []) ⟨hx, hb, hml, hown, hts⟩ (kX7_isThrown l G q C _ t1 2 u_3 hu_3) (cwV 2 hts gX7_setGroup_X7_isThrown rfl rfl rfl (by decide +kernel) ⟨Nat.le_of_ble_eq_true rfl, Nat.le_of_ble_eq_true rfl⟩) (wrV hP hD hK 8 0 rfl rfl) rfl rfl hl.1 rfl (lv_room (Nat.le_of_ble_eq_true rfl)) dX7_setGroup_34 ⟨Nat.zero_le _, Nat.zero_le _⟩) hD hS hA (fun _ => rfl) (fun H locs hP hD hS => ?_)
  refine lv_if_eq (tgt := 42) hx hb dX7_setGroup_37 (by decide) (fun c_37 => ?_) (fun c_37 => ?_)
  · have h := br_T h c_37
    refine lv_aload_n hx hb dX7_setGroup_42 rfl (lv_at hl 0 rfl) ?_
    refine va_get (D := G.1) (ci := 8) (v := .ref (q 3)) (C := RX7) (T := TX7) (N := 24) hx hb hts in_wsX7_setGroup_X7 hown hK.1 hP 0 rfl rfl 2 (by decide) (w_mem hts 1 rfl) (fun _ h9 => h9) rfl dX7_setGroup_43 ?_
    refine lv_iload_n hx hb dX7_setGroup_46 rfl (lv_at hl 1 rfl) ?_
    obtain ⟨g47, h⟩ := gd_ex h
    refine va_iald (D := G.1) hx hb hK.1 hP 3 0 rfl rfl g47 dX7_setGroup_47 ?_
    refine lv_topi (fun v_4 ev_4 => ?_)
    have h := ltv_at h v_4 ev_4
    refine lv_istore (lv' := [(4, .int v_4), (0, .ref (q 0)), (1, .int x1), (2, .int x2), (3, .int x3)]) hx hb dX7_setGroup_48 hl (by decide) rfl (fun ls hl => ?_)
    refine lv_aload_n hx hb dX7_setGroup_50 rfl (lv_at hl 1 rfl) ?_
    refine va_get (D := G.1) (ci := 8) (v := .ref (q 4)) (C := RX7) (T := TX7) (N := 24) hx hb hts in_wsX7_setGroup_X7 hown hK.1 hP 0 rfl rfl 3 (by decide) (w_mem hts 2 rfl) (fun _ h9 => h9) rfl dX7_setGroup_51 ?_
    refine lv_iload_n hx hb dX7_setGroup_54 rfl (lv_at hl 2 rfl) ?_
    obtain ⟨g55, h⟩ := gd_ex h
    refine va_iald (D := G.1) hx hb hK.1 hP 4 0 rfl rfl g55 dX7_setGroup_55 ?_
    refine lv_topi (fun v_5 ev_5 => ?_)
    have h := ltv_at h v_5 ev_5
    refine lv_istore (lv' := [(5, .int v_5), (4, .int v_4), (0, .ref (q 0)), (1, .int x1), (2, .int x2), (3, .int x3)]) hx hb dX7_setGroup_56 hl (by decide) rfl (fun ls hl => ?_)
    refine lv_aload_n hx hb dX7_setGroup_58 rfl (lv_at hl 2 rfl) ?_
    refine va_get (D := G.1) (ci := 8) (v := .ref (q 3)) (C := RX7) (T := TX7) (N := 24) hx hb hts in_wsX7_setGroup_X7 hown hK.1 hP 0 rfl rfl 2 (by decide) (w_mem hts 1 rfl) (fun _ h9 => h9) rfl dX7_setGroup_59 ?_
    refine lv_iload_n hx hb dX7_setGroup_62 rfl (lv_at hl 3 rfl) ?_
    refine lv_iload_n hx hb dX7_setGroup_63 rfl (lv_at hl 4 rfl) ?_
    obtain ⟨g64, h⟩ := gd_ex h
    refine va_iast (D := G.1) hx hb hK.1 hP hD hS 3 0 rfl rfl g64 dX7_setGroup_64 (fun H locs hP hD hS => ?_)
    have hP : va_P G.1 vwCl (MW G q (sA u_3.2 2 x1.toNatClampNeg x2)) H := hP
    have hD : va_D A (MW G q (sA u_3.2 2 x1.toNatClampNeg x2)) := hD
    obtain ⟨C_6, eC_6, h⟩ := ltv_ex h
    rw [← eC_6] at hP hD
    refine lv_aload_n hx hb dX7_setGroup_65 rfl (lv_at hl 2 rfl) ?_
    refine va_get (D := G.1) (ci := 8) (v := .ref (q 4)) (C := RX7) (T := TX7) (N := 24) hx hb hts in_wsX7_setGroup_X7 hown hK.1 hP 0 rfl rfl 3 (by decide) (w_mem hts 2 rfl) (fun _ h9 => h9) rfl dX7_setGroup_66 ?_
    refine lv_iload_n hx hb dX7_setGroup_69 rfl (lv_at hl 3 rfl) ?_
    refine lv_iload_n hx hb dX7_setGroup_70 rfl (lv_at hl 5 rfl) ?_
    obtain ⟨g71, h⟩ := gd_ex h
    refine va_iast (D := G.1) hx hb hK.1 hP hD hS 4 0 rfl rfl g71 dX7_setGroup_71 (fun H locs hP hD hS => ?_)
    have hP : va_P G.1 vwCl (MW G q (sA C_6 3 x1.toNatClampNeg x3)) H := hP
    have hD : va_D A (MW G q (sA C_6 3 x1.toNatClampNeg x3)) := hD
    obtain ⟨C_7, eC_7, h⟩ := ltv_ex h
    rw [← eC_7] at hP hD
    refine lv_aload_n hx hb dX7_setGroup_72 rfl (lv_at hl 2 rfl) ?_
    refine lv_aload_n hx hb dX7_setGroup_73 rfl (lv_at hl 2 rfl) ?_
    obtain ⟨r_8, hr_8, h⟩ := bd_ex h
    refine ro_i (va_runV (As := []) (rest := [.ref (q 0)]) ⟨hx, hb, hml, hown, hts⟩ (kX7_isNoneLeft l G q C_7 r_8 hr_8) (cwV 0 hts gX7_setGroup_X7_isNoneLeft rfl rfl rfl (by decide +kernel) ⟨Nat.le_of_ble_eq_true rfl, Nat.le_of_ble_eq_true rfl⟩) (roV hP hK 8 0 rfl rfl) rfl rfl hl.1 rfl (lv_room (Nat.le_of_ble_eq_true rfl)) dX7_setGroup_74 ⟨Nat.zero_le _, Nat.zero_le _⟩) ?_
    refine lv_iconst (v := 3) hx hb dX7_setGroup_77 (by decide) ?_
    obtain ⟨u_9, hu_9, h⟩ := bd_ex h
    refine wr_i (Wd := MW G q) (va_runV (As := [.int r_8, .int 3]) (rest := []) ⟨hx, hb, hml, hown, hts⟩ (kX7_isThrown l G q C_7 _ r_8 3 u_9 hu_9) (cwV 2 hts gX7_setGroup_X7_isThrown rfl rfl rfl (by decide +kernel) ⟨Nat.le_of_ble_eq_true rfl, Nat.le_of_ble_eq_true rfl⟩) (wrV hP hD hK 8 0 rfl rfl) rfl rfl hl.1 rfl (lv_room (Nat.le_of_ble_eq_true rfl)) dX7_setGroup_78 ⟨Nat.zero_le _, Nat.zero_le _⟩) hD hS hA (fun _ => rfl) (fun H locs hP hD hS => ?_)
    refine lv_if_eq (tgt := 100) hx hb dX7_setGroup_81 (by decide) (fun c_81 => ?_) (fun c_81 => ?_)
    · have h := br_T h c_81
      exact wX7_setGroup_100 bx hA hK u_9.2 x1 h hP hD hS _ (lv_sub hl [2, 3] rfl)
    · have h := br_F h c_81
      refine lv_aload_n hx hb dX7_setGroup_84 rfl (lv_at hl 2 rfl) ?_
      refine va_get (D := G.1) (ci := 8) (v := .ref (q 3)) (C := RX7) (T := TX7) (N := 24) hx hb hts in_wsX7_setGroup_X7 hown hK.1 hP 0 rfl rfl 2 (by decide) (w_mem hts 1 rfl) (fun _ h9 => h9) rfl dX7_setGroup_85 ?_
      refine lv_iload_n hx hb dX7_setGroup_88 rfl (lv_at hl 3 rfl) ?_
      refine lv_iload hx hb dX7_setGroup_89 (lv_at hl 1 rfl) ?_
      obtain ⟨g91, h⟩ := gd_ex h
      refine va_iast (D := G.1) hx hb hK.1 hP hD hS 3 0 rfl rfl g91 dX7_setGroup_91 (fun H locs hP hD hS => ?_)
      have hP : va_P G.1 vwCl (MW G q (sA u_9.2 2 x1.toNatClampNeg v_4)) H := hP
      have hD : va_D A (MW G q (sA u_9.2 2 x1.toNatClampNeg v_4)) := hD
      obtain ⟨C_12, eC_12, h⟩ := ltv_ex h
      rw [← eC_12] at hP hD
      refine lv_aload_n hx hb dX7_setGroup_92 rfl (lv_at hl 2 rfl) ?_
      refine va_get (D := G.1) (ci := 8) (v := .ref (q 4)) (C := RX7) (T := TX7) (N := 24) hx hb hts in_wsX7_setGroup_X7 hown hK.1 hP 0 rfl rfl 3 (by decide) (w_mem hts 2 rfl) (fun _ h9 => h9) rfl dX7_setGroup_93 ?_
      refine lv_iload_n hx hb dX7_setGroup_96 rfl (lv_at hl 3 rfl) ?_
      refine lv_iload hx hb dX7_setGroup_97 (lv_at hl 0 rfl) ?_
      obtain ⟨g99, h⟩ := gd_ex h
      refine va_iast (D := G.1) hx hb hK.1 hP hD hS 4 0 rfl rfl g99 dX7_setGroup_99 (fun H locs hP hD hS => ?_)
      have hP : va_P G.1 vwCl (MW G q (sA C_12 3 x1.toNatClampNeg v_5)) H := hP
      have hD : va_D A (MW G q (sA C_12 3 x1.toNatClampNeg v_5)) := hD
      obtain ⟨C_13, eC_13, h⟩ := ltv_ex h
      rw [← eC_13] at hP hD
      exact wX7_setGroup_100 bx hA hK C_13 x1 h hP hD hS _ (lv_sub hl [2, 3] rfl)
  · have h := br_F h c_37
    refine lv_iconst (v := 0) hx hb dX7_setGroup_40 (by decide) ?_
    exact MQi.end hx hb hr hlocks hP hS dX7_setGroup_41 rfl h

set_option maxHeartbeats 4000000 in
set_option maxRecDepth 100000 in
theorem wX7_setGroup_28 {p : Program} {l : Launch} {e : Env} {s : State} {m : MethodId} {args : Array Value} {below : List Frame} {meth : Method} {c : Code} {G : GT} {q : Nat → Nat} {A : Nat → Prop} {out : Int32 × St} (bx : BX p RX7 wsX7_setGroup cX7_setGroup 8 (some .int) s m args meth c) (hA : ∀ q : Nat, s.heap.size ≤ q → A q) (hK : CK G s) (C : St) (x1 : Int32) (x2 : Int32) (x3 : Int32) (h : pX7_setGroup_28 C x1 x2 x3 = some out) {H : Heap} {locs : List Loc} (hP : va_P G.1 vwCl (MW G q C) H) (hD : va_D A (MW G q C)) (hS : va_S A s.heap H locs) (ls : Array Slot) (hl : lv_has ls 8 [(0, .ref (q 0)), (1, .int x1), (2, .int x2), (3, .int x3)]) : W p l e rmX7_setGroup s m args below meth c H locs 0 0 (MQi G (MW G q) A s args below out) (F0 m 28 ls [.ref (q 0)]) := by
  obtain ⟨hx, hb, hr, hts, hown, hml, hlocks⟩ := id bx
  unfold pX7_setGroup_28 at h
  refine lv_iconst (v := 1) hx hb dX7_setGroup_28 (by decide) ?_
  refine lv_goto (tgt := 33) hx hb dX7_setGroup_29 (by decide) ?_
  exact wX7_setGroup_33 bx hA hK C x1 x2 x3 1 h hP hD hS _ (lv_sub hl [0, 1, 2, 3] rfl)

set_option maxHeartbeats 4000000 in
set_option maxRecDepth 100000 in
theorem kX7_setGroup (l : Launch) (G : GT) (q : Nat → Nat) (C : St) (sz : Nat) (x1 : Int32) (x2 : Int32) (x3 : Int32) (r : Int32 × St) (h : pX7_setGroup C x1 x2 x3 = some r) : Met l yX7_setGroup wsX7_setGroup rmX7_setGroup (va_Pc [.ref (q 0), .int x1, .int x2, .int x3] (wrP G (MW G q C) sz)) (va_Qi (fun v u => (v, u) = r) (fun u t => va_P G.1 vwCl (MW G q u) t.heap) (va_A (MW G q C) sz)) 0 0 (va_A (MW G q C) sz) := by
  refine Met.ofW (cc := cX7_setGroup) (maxL := 8) (ret := (some .int)) (by decide) rfl ?_
  intro p e s m args below meth c s₁ B hml hv
  obtain ⟨rfl, hsz, hP, hK, hD0⟩ := hv
  have bx := bx_of B hml
  subst hsz
  have hD := hD0.self (sz := s.heap.size)
  generalize hAe : va_A (MW G q C) s.heap.size = A at hD ⊢
  have hA : ∀ q : Nat, s.heap.size ≤ q → A q := fun q h => by rw [← hAe]; exact Or.inr h
  have hS : va_S A s.heap s.heap [] := va_S.rf
  obtain ⟨hx, hb, hr, hts, hown, hml, hlocks⟩ := id bx
  have hl := lv_entry ([.ref (q 0), .int x1, .int x2, .int x3]) (n := 8) (Nat.le_of_ble_eq_true rfl)
  rw [lg_entry_eq]
  generalize (lg_sl ([.ref (q 0), .int x1, .int x2, .int x3]) ++ List.replicate (8 - (lg_sl ([.ref (q 0), .int x1, .int x2, .int x3])).length) Slot.unset).toArray = ls at hl ⊢
  have hl : lv_has ls 8 [(0, .ref (q 0)), (1, .int x1), (2, .int x2), (3, .int x3)] := hl
  show W p l e rmX7_setGroup s m _ below meth c s.heap [] 0 0 (MQi G (MW G q) A s _ below r) (F0 m 0 ls [])
  unfold pX7_setGroup at h
  refine lv_aload_n hx hb dX7_setGroup_0 rfl (lv_at hl 0 rfl) ?_
  refine lv_aload_n hx hb dX7_setGroup_1 rfl (lv_at hl 0 rfl) ?_
  refine lv_iload_n hx hb dX7_setGroup_2 rfl (lv_at hl 1 rfl) ?_
  obtain ⟨r_1, hr_1, h⟩ := bd_ex h
  refine ro_i (va_runV (As := [.int x1]) (rest := [.ref (q 0)]) ⟨hx, hb, hml, hown, hts⟩ (kX7_isNone l G q C x1 r_1 hr_1) (cwV 1 hts gX7_setGroup_X7_isNone rfl rfl rfl (by decide +kernel) ⟨Nat.le_of_ble_eq_true rfl, Nat.le_of_ble_eq_true rfl⟩) (roV hP hK 8 0 rfl rfl) rfl rfl hl.1 rfl (lv_room (Nat.le_of_ble_eq_true rfl)) dX7_setGroup_3 ⟨Nat.zero_le _, Nat.zero_le _⟩) ?_
  refine lv_iconst (v := 1) hx hb dX7_setGroup_6 (by decide) ?_
  obtain ⟨u_2, hu_2, h⟩ := bd_ex h
  refine wr_i (Wd := MW G q) (va_runV (As := [.int r_1, .int 1]) (rest := []) ⟨hx, hb, hml, hown, hts⟩ (kX7_isThrown l G q C _ r_1 1 u_2 hu_2) (cwV 2 hts gX7_setGroup_X7_isThrown rfl rfl rfl (by decide +kernel) ⟨Nat.le_of_ble_eq_true rfl, Nat.le_of_ble_eq_true rfl⟩) (wrV hP hD hK 8 0 rfl rfl) rfl rfl hl.1 rfl (lv_room (Nat.le_of_ble_eq_true rfl)) dX7_setGroup_7 ⟨Nat.zero_le _, Nat.zero_le _⟩) hD hS hA (fun _ => rfl) (fun H locs hP hD hS => ?_)
  refine lv_if_ne (tgt := 40) hx hb dX7_setGroup_10 (by decide) (fun c_10 => ?_) (fun c_10 => ?_)
  · have h := br_F h c_10
    refine lv_iconst (v := 0) hx hb dX7_setGroup_40 (by decide) ?_
    exact MQi.end hx hb hr hlocks hP hS dX7_setGroup_41 rfl h
  · have h := br_T h c_10
    refine lv_aload_n hx hb dX7_setGroup_13 rfl (lv_at hl 0 rfl) ?_
    refine lv_iload_n hx hb dX7_setGroup_14 rfl (lv_at hl 2 rfl) ?_
    refine lv_if_lt (tgt := 28) hx hb dX7_setGroup_15 (by decide) (fun c_15 => ?_) (fun c_15 => ?_)
    · have h := br_T h c_15
      exact wX7_setGroup_28 bx hA hK u_2.2 x1 x2 x3 h hP hD hS _ (lv_sub hl [0, 1, 2, 3] rfl)
    · have h := br_F h c_15
      refine lv_iload_n hx hb dX7_setGroup_18 rfl (lv_at hl 3 rfl) ?_
      refine lv_iload_n hx hb dX7_setGroup_19 rfl (lv_at hl 2 rfl) ?_
      refine lv_bipush (v := 12) hx hb dX7_setGroup_20 (by decide) ?_
      obtain ⟨r_14, hr_14, h⟩ := bd_ex h
      refine ro_i (va_runS (As := [.int x3, .int x2, .int 12]) (rest := [.ref (q 0)]) ⟨hx, hb, hml, hown, hts⟩ (kX7_isIn l G q u_2.2 x3 x2 12 r_14 hr_14) (va_cwS 3 hts gX7_setGroup_X7_isIn rfl rfl rfl (by decide +kernel) ⟨Nat.le_of_ble_eq_true rfl, Nat.le_of_ble_eq_true rfl⟩) (roS hP hK) rfl rfl hl.1 rfl (lv_room (Nat.le_of_ble_eq_true rfl)) dX7_setGroup_22 ⟨Nat.zero_le _, Nat.zero_le _⟩) ?_
      refine lv_if_ne (tgt := 32) hx hb dX7_setGroup_25 (by decide) (fun c_25 => ?_) (fun c_25 => ?_)
      · have h := br_F h c_25
        refine lv_iconst (v := 0) hx hb dX7_setGroup_32 (by decide) ?_
        exact wX7_setGroup_33 bx hA hK u_2.2 x1 x2 x3 0 h hP hD hS _ (lv_sub hl [0, 1, 2, 3] rfl)
      · have h := br_T h c_25
        exact wX7_setGroup_28 bx hA hK u_2.2 x1 x2 x3 h hP hD hS _ (lv_sub hl [0, 1, 2, 3] rfl)

def rmX7_adds : Room := { frames := 5, cells := 0, slots := 0, locals := 110 }

theorem in_wsX7_adds_X7 : ∀ w ∈ u_ws RX7 TX7 24, w ∈ wsX7_adds := by decide +kernel

set_option maxHeartbeats 4000000 in
set_option maxRecDepth 100000 in
theorem wX7_adds_181 {p : Program} {l : Launch} {e : Env} {s : State} {m : MethodId} {args : Array Value} {below : List Frame} {meth : Method} {c : Code} {G : GT} {q : Nat → Nat} {A : Nat → Prop} {out : Int32 × St} (bx : BX p RX7 wsX7_adds cX7_adds 5 (some .int) s m args meth c) (hA : ∀ q : Nat, s.heap.size ≤ q → A q) (hK : CK G s) (C : St) (h : pX7_adds_181 C = some out) {H : Heap} {locs : List Loc} (hP : va_P G.1 vwCl (MW G q C) H) (hD : va_D A (MW G q C)) (hS : va_S A s.heap H locs) (ls : Array Slot) (hl : lv_has ls 5 [(0, .ref (q 0))]) : W p l e rmX7_adds s m args below meth c H locs 0 0 (MQi G (MW G q) A s args below out) (F0 m 181 ls []) := by
  obtain ⟨hx, hb, hr, hts, hown, hml, hlocks⟩ := id bx
  unfold pX7_adds_181 at h
  refine lv_aload_n hx hb dX7_adds_181 rfl (lv_at hl 0 rfl) ?_
  refine va_get (D := G.1) (ci := 8) (v := .int (C.1 1)) (C := RX7) (T := TX7) (N := 24) hx hb hts in_wsX7_adds_X7 hown hK.1 hP 0 rfl rfl 17 (by decide) (w_mem hts 1 rfl) (fun _ h9 => h9) rfl dX7_adds_182 ?_
  refine lv_iconst (v := 1) hx hb dX7_adds_185 (by decide) ?_
  refine lv_isub hx hb dX7_adds_186 ?_
  exact MQi.end hx hb hr hlocks hP hS dX7_adds_187 rfl h

set_option maxHeartbeats 4000000 in
set_option maxRecDepth 100000 in
theorem wX7_adds_89 {p : Program} {l : Launch} {e : Env} {s : State} {m : MethodId} {args : Array Value} {below : List Frame} {meth : Method} {c : Code} {G : GT} {q : Nat → Nat} {A : Nat → Prop} {out : Int32 × St} (bx : BX p RX7 wsX7_adds cX7_adds 5 (some .int) s m args meth c) (hA : ∀ q : Nat, s.heap.size ≤ q → A q) (hK : CK G s) (C : St) (x1 : Int32) (x2 : Int32) (x3 : Int32) (x4 : Int32) (t1 : Int32) (h : pX7_adds_89 C x1 x2 x3 x4 t1 = some out) {H : Heap} {locs : List Loc} (hP : va_P G.1 vwCl (MW G q C) H) (hD : va_D A (MW G q C)) (hS : va_S A s.heap H locs) (ls : Array Slot) (hl : lv_has ls 5 [(0, .ref (q 0)), (1, .int x1), (2, .int x2), (3, .int x3), (4, .int x4)]) : W p l e rmX7_adds s m args below meth c H locs 0 0 (MQi G (MW G q) A s args below out) (F0 m 89 ls [.int t1, .ref (q 0)]) := by
  obtain ⟨hx, hb, hr, hts, hown, hml, hlocks⟩ := id bx
  unfold pX7_adds_89 at h
  refine lv_iconst (v := 3) hx hb dX7_adds_89 (by decide) ?_
  obtain ⟨u_4, hu_4, h⟩ := bd_ex h
  refine wr_i (Wd := MW G q) (va_runV (As := [.int t1, .int 3]) (rest := []) ⟨hx, hb, hml, hown, hts⟩ (kX7_isThrown l G q C _ t1 3 u_4 hu_4) (cwV 2 hts gX7_adds_X7_isThrown rfl rfl rfl (by decide +kernel) ⟨Nat.le_of_ble_eq_true rfl, Nat.le_of_ble_eq_true rfl⟩) (wrV hP hD hK 8 0 rfl rfl) rfl rfl hl.1 rfl (lv_room (Nat.le_of_ble_eq_true rfl)) dX7_adds_90 ⟨Nat.zero_le _, Nat.zero_le _⟩) hD hS hA (fun _ => rfl) (fun H locs hP hD hS => ?_)
  refine lv_if_eq (tgt := 98) hx hb dX7_adds_93 (by decide) (fun c_93 => ?_) (fun c_93 => ?_)
  · have h := br_T h c_93
    refine lv_aload_n hx hb dX7_adds_98 rfl (lv_at hl 0 rfl) ?_
    refine va_get (D := G.1) (ci := 8) (v := .ref (q 7)) (C := RX7) (T := TX7) (N := 24) hx hb hts in_wsX7_adds_X7 hown hK.1 hP 0 rfl rfl 6 (by decide) (w_mem hts 2 rfl) (fun _ h9 => h9) rfl dX7_adds_99 ?_
    refine lv_aload_n hx hb dX7_adds_102 rfl (lv_at hl 0 rfl) ?_
    refine va_get (D := G.1) (ci := 8) (v := .int (u_4.2.1 1)) (C := RX7) (T := TX7) (N := 24) hx hb hts in_wsX7_adds_X7 hown hK.1 hP 0 rfl rfl 17 (by decide) (w_mem hts 1 rfl) (fun _ h9 => h9) rfl dX7_adds_103 ?_
    refine lv_iload_n hx hb dX7_adds_106 rfl (lv_at hl 1 rfl) ?_
    obtain ⟨g107, h⟩ := gd_ex h
    refine va_cast (D := G.1) hx hb hK.1 hP hD hS 7 1 rfl rfl g107 dX7_adds_107 (fun H locs hP hD hS => ?_)
    have hP : va_P G.1 vwCl (MW G q (sA u_4.2 6 (u_4.2.1 1).toNatClampNeg (vp_nar .char x1))) H := hP
    have hD : va_D A (MW G q (sA u_4.2 6 (u_4.2.1 1).toNatClampNeg (vp_nar .char x1))) := hD
    obtain ⟨C_5, eC_5, h⟩ := ltv_ex h
    rw [← eC_5] at hP hD
    refine lv_aload_n hx hb dX7_adds_108 rfl (lv_at hl 0 rfl) ?_
    refine va_get (D := G.1) (ci := 8) (v := .ref (q 10)) (C := RX7) (T := TX7) (N := 24) hx hb hts in_wsX7_adds_X7 hown hK.1 hP 0 rfl rfl 9 (by decide) (w_mem hts 3 rfl) (fun _ h9 => h9) rfl dX7_adds_109 ?_
    refine lv_aload_n hx hb dX7_adds_112 rfl (lv_at hl 0 rfl) ?_
    refine va_get (D := G.1) (ci := 8) (v := .int (C_5.1 1)) (C := RX7) (T := TX7) (N := 24) hx hb hts in_wsX7_adds_X7 hown hK.1 hP 0 rfl rfl 17 (by decide) (w_mem hts 1 rfl) (fun _ h9 => h9) rfl dX7_adds_113 ?_
    refine lv_iload_n hx hb dX7_adds_116 rfl (lv_at hl 2 rfl) ?_
    obtain ⟨g117, h⟩ := gd_ex h
    refine va_iast (D := G.1) hx hb hK.1 hP hD hS 10 0 rfl rfl g117 dX7_adds_117 (fun H locs hP hD hS => ?_)
    have hP : va_P G.1 vwCl (MW G q (sA C_5 9 (C_5.1 1).toNatClampNeg x2)) H := hP
    have hD : va_D A (MW G q (sA C_5 9 (C_5.1 1).toNatClampNeg x2)) := hD
    obtain ⟨C_6, eC_6, h⟩ := ltv_ex h
    rw [← eC_6] at hP hD
    refine lv_aload_n hx hb dX7_adds_118 rfl (lv_at hl 0 rfl) ?_
    refine va_get (D := G.1) (ci := 8) (v := .ref (q 11)) (C := RX7) (T := TX7) (N := 24) hx hb hts in_wsX7_adds_X7 hown hK.1 hP 0 rfl rfl 10 (by decide) (w_mem hts 4 rfl) (fun _ h9 => h9) rfl dX7_adds_119 ?_
    refine lv_aload_n hx hb dX7_adds_122 rfl (lv_at hl 0 rfl) ?_
    refine va_get (D := G.1) (ci := 8) (v := .int (C_6.1 1)) (C := RX7) (T := TX7) (N := 24) hx hb hts in_wsX7_adds_X7 hown hK.1 hP 0 rfl rfl 17 (by decide) (w_mem hts 1 rfl) (fun _ h9 => h9) rfl dX7_adds_123 ?_
    refine lv_iload_n hx hb dX7_adds_126 rfl (lv_at hl 3 rfl) ?_
    obtain ⟨g127, h⟩ := gd_ex h
    refine va_iast (D := G.1) hx hb hK.1 hP hD hS 11 0 rfl rfl g127 dX7_adds_127 (fun H locs hP hD hS => ?_)
    have hP : va_P G.1 vwCl (MW G q (sA C_6 10 (C_6.1 1).toNatClampNeg x3)) H := hP
    have hD : va_D A (MW G q (sA C_6 10 (C_6.1 1).toNatClampNeg x3)) := hD
    obtain ⟨C_7, eC_7, h⟩ := ltv_ex h
    rw [← eC_7] at hP hD
    refine lv_aload_n hx hb dX7_adds_128 rfl (lv_at hl 0 rfl) ?_
    refine va_get (D := G.1) (ci := 8) (v := .ref (q 12)) (C := RX7) (T := TX7) (N := 24) hx hb hts in_wsX7_adds_X7 hown hK.1 hP 0 rfl rfl 11 (by decide) (w_mem hts 5 rfl) (fun _ h9 => h9) rfl dX7_adds_129 ?_
    refine lv_aload_n hx hb dX7_adds_132 rfl (lv_at hl 0 rfl) ?_
    refine va_get (D := G.1) (ci := 8) (v := .int (C_7.1 1)) (C := RX7) (T := TX7) (N := 24) hx hb hts in_wsX7_adds_X7 hown hK.1 hP 0 rfl rfl 17 (by decide) (w_mem hts 1 rfl) (fun _ h9 => h9) rfl dX7_adds_133 ?_
    refine lv_iload hx hb dX7_adds_136 (lv_at hl 4 rfl) ?_
    obtain ⟨g138, h⟩ := gd_ex h
    refine va_iast (D := G.1) hx hb hK.1 hP hD hS 12 0 rfl rfl g138 dX7_adds_138 (fun H locs hP hD hS => ?_)
    have hP : va_P G.1 vwCl (MW G q (sA C_7 11 (C_7.1 1).toNatClampNeg x4)) H := hP
    have hD : va_D A (MW G q (sA C_7 11 (C_7.1 1).toNatClampNeg x4)) := hD
    obtain ⟨C_8, eC_8, h⟩ := ltv_ex h
    rw [← eC_8] at hP hD
    refine lv_aload_n hx hb dX7_adds_139 rfl (lv_at hl 0 rfl) ?_
    refine va_get (D := G.1) (ci := 8) (v := .ref (q 6)) (C := RX7) (T := TX7) (N := 24) hx hb hts in_wsX7_adds_X7 hown hK.1 hP 0 rfl rfl 5 (by decide) (w_mem hts 6 rfl) (fun _ h9 => h9) rfl dX7_adds_140 ?_
    refine lv_aload_n hx hb dX7_adds_143 rfl (lv_at hl 0 rfl) ?_
    refine va_get (D := G.1) (ci := 8) (v := .int (C_8.1 1)) (C := RX7) (T := TX7) (N := 24) hx hb hts in_wsX7_adds_X7 hown hK.1 hP 0 rfl rfl 17 (by decide) (w_mem hts 1 rfl) (fun _ h9 => h9) rfl dX7_adds_144 ?_
    refine lv_iconst (v := 0) hx hb dX7_adds_147 (by decide) ?_
    obtain ⟨g148, h⟩ := gd_ex h
    refine va_zast (D := G.1) hx hb hK.1 hP hD hS 6 2 rfl rfl g148 dX7_adds_148 (fun H locs hP hD hS => ?_)
    have hP : va_P G.1 vwCl (MW G q (sA C_8 5 (C_8.1 1).toNatClampNeg (vp_nar .boolean 0))) H := hP
    have hD : va_D A (MW G q (sA C_8 5 (C_8.1 1).toNatClampNeg (vp_nar .boolean 0))) := hD
    obtain ⟨C_9, eC_9, h⟩ := ltv_ex h
    rw [← eC_9] at hP hD
    refine lv_aload_n hx hb dX7_adds_149 rfl (lv_at hl 0 rfl) ?_
    refine lv_dup hx hb dX7_adds_150 rfl ?_
    refine va_get (D := G.1) (ci := 8) (v := .int (C_9.1 1)) (C := RX7) (T := TX7) (N := 24) hx hb hts in_wsX7_adds_X7 hown hK.1 hP 0 rfl rfl 17 (by decide) (w_mem hts 1 rfl) (fun _ h9 => h9) rfl dX7_adds_151 ?_
    refine lv_iconst (v := 1) hx hb dX7_adds_154 (by decide) ?_
    refine lv_iadd hx hb dX7_adds_155 ?_
    refine va_put (D := G.1) (ci := 8) (v := .int ((C_9.1 1) + 1)) (ty := .int) (C := RX7) (T := TX7) (N := 24) hx hb hts in_wsX7_adds_X7 tyX7 tyX7_ok nmX7 hown hK.1 hP hD hS 0 rfl rfl 17 (by decide) (w_mem hts 1 rfl) (fun _ h9 => h9) rfl (by decide +kernel) rfl rfl (Nat.le_of_ble_eq_true rfl) dX7_adds_156 (fun H locs hP hD hS => ?_)
    have hP : va_P G.1 vwCl (MW G q (sS C_9 1 ((C_9.1 1) + 1))) H := hP
    have hD : va_D A (MW G q (sS C_9 1 ((C_9.1 1) + 1))) := hD
    obtain ⟨C_10, eC_10, h⟩ := ltv_ex h
    rw [← eC_10] at hP hD
    refine lv_aload_n hx hb dX7_adds_159 rfl (lv_at hl 0 rfl) ?_
    refine lv_aload_n hx hb dX7_adds_160 rfl (lv_at hl 0 rfl) ?_
    obtain ⟨r_11, hr_11, h⟩ := bd_ex h
    refine ro_i (va_runV (As := []) (rest := [.ref (q 0)]) ⟨hx, hb, hml, hown, hts⟩ (kX7_isNoneLeft l G q C_10 r_11 hr_11) (cwV 0 hts gX7_adds_X7_isNoneLeft rfl rfl rfl (by decide +kernel) ⟨Nat.le_of_ble_eq_true rfl, Nat.le_of_ble_eq_true rfl⟩) (roV hP hK 8 0 rfl rfl) rfl rfl hl.1 rfl (lv_room (Nat.le_of_ble_eq_true rfl)) dX7_adds_161 ⟨Nat.zero_le _, Nat.zero_le _⟩) ?_
    refine lv_iconst (v := 4) hx hb dX7_adds_164 (by decide) ?_
    obtain ⟨u_12, hu_12, h⟩ := bd_ex h
    refine wr_i (Wd := MW G q) (va_runV (As := [.int r_11, .int 4]) (rest := []) ⟨hx, hb, hml, hown, hts⟩ (kX7_isThrown l G q C_10 _ r_11 4 u_12 hu_12) (cwV 2 hts gX7_adds_X7_isThrown rfl rfl rfl (by decide +kernel) ⟨Nat.le_of_ble_eq_true rfl, Nat.le_of_ble_eq_true rfl⟩) (wrV hP hD hK 8 0 rfl rfl) rfl rfl hl.1 rfl (lv_room (Nat.le_of_ble_eq_true rfl)) dX7_adds_165 ⟨Nat.zero_le _, Nat.zero_le _⟩) hD hS hA (fun _ => rfl) (fun H locs hP hD hS => ?_)
    refine lv_if_eq (tgt := 181) hx hb dX7_adds_168 (by decide) (fun c_168 => ?_) (fun c_168 => ?_)
    · have h := br_T h c_168
      exact wX7_adds_181 bx hA hK u_12.2 h hP hD hS _ (lv_sub hl [0] rfl)
    · have h := br_F h c_168
      refine lv_aload_n hx hb dX7_adds_171 rfl (lv_at hl 0 rfl) ?_
      refine lv_dup hx hb dX7_adds_172 rfl ?_
      refine va_get (D := G.1) (ci := 8) (v := .int (u_12.2.1 1)) (C := RX7) (T := TX7) (N := 24) hx hb hts in_wsX7_adds_X7 hown hK.1 hP 0 rfl rfl 17 (by decide) (w_mem hts 1 rfl) (fun _ h9 => h9) rfl dX7_adds_173 ?_
      refine lv_iconst (v := 1) hx hb dX7_adds_176 (by decide) ?_
      refine lv_isub hx hb dX7_adds_177 ?_
      refine va_put (D := G.1) (ci := 8) (v := .int ((u_12.2.1 1) - 1)) (ty := .int) (C := RX7) (T := TX7) (N := 24) hx hb hts in_wsX7_adds_X7 tyX7 tyX7_ok nmX7 hown hK.1 hP hD hS 0 rfl rfl 17 (by decide) (w_mem hts 1 rfl) (fun _ h9 => h9) rfl (by decide +kernel) rfl rfl (Nat.le_of_ble_eq_true rfl) dX7_adds_178 (fun H locs hP hD hS => ?_)
      have hP : va_P G.1 vwCl (MW G q (sS u_12.2 1 ((u_12.2.1 1) - 1))) H := hP
      have hD : va_D A (MW G q (sS u_12.2 1 ((u_12.2.1 1) - 1))) := hD
      obtain ⟨C_13, eC_13, h⟩ := ltv_ex h
      rw [← eC_13] at hP hD
      exact wX7_adds_181 bx hA hK C_13 h hP hD hS _ (lv_sub hl [0] rfl)
  · have h := br_F h c_93
    refine lv_iconst (v := 0) hx hb dX7_adds_96 (by decide) ?_
    exact MQi.end hx hb hr hlocks hP hS dX7_adds_97 rfl h

set_option maxHeartbeats 4000000 in
set_option maxRecDepth 100000 in
theorem wX7_adds_67 {p : Program} {l : Launch} {e : Env} {s : State} {m : MethodId} {args : Array Value} {below : List Frame} {meth : Method} {c : Code} {G : GT} {q : Nat → Nat} {A : Nat → Prop} {out : Int32 × St} (bx : BX p RX7 wsX7_adds cX7_adds 5 (some .int) s m args meth c) (hA : ∀ q : Nat, s.heap.size ≤ q → A q) (hK : CK G s) (C : St) (x1 : Int32) (x2 : Int32) (x3 : Int32) (x4 : Int32) (t1 : Int32) (h : pX7_adds_67 C x1 x2 x3 x4 t1 = some out) {H : Heap} {locs : List Loc} (hP : va_P G.1 vwCl (MW G q C) H) (hD : va_D A (MW G q C)) (hS : va_S A s.heap H locs) (ls : Array Slot) (hl : lv_has ls 5 [(0, .ref (q 0)), (1, .int x1), (2, .int x2), (3, .int x3), (4, .int x4)]) : W p l e rmX7_adds s m args below meth c H locs 0 0 (MQi G (MW G q) A s args below out) (F0 m 67 ls [.int t1, .ref (q 0)]) := by
  obtain ⟨hx, hb, hr, hts, hown, hml, hlocks⟩ := id bx
  unfold pX7_adds_67 at h
  refine lv_iconst (v := 2) hx hb dX7_adds_67 (by decide) ?_
  obtain ⟨u_3, hu_3, h⟩ := bd_ex h
  refine wr_i (Wd := MW G q) (va_runV (As := [.int t1, .int 2]) (rest := []) ⟨hx, hb, hml, hown, hts⟩ (kX7_isThrown l G q C _ t1 2 u_3 hu_3) (cwV 2 hts gX7_adds_X7_isThrown rfl rfl rfl (by decide +kernel) ⟨Nat.le_of_ble_eq_true rfl, Nat.le_of_ble_eq_true rfl⟩) (wrV hP hD hK 8 0 rfl rfl) rfl rfl hl.1 rfl (lv_room (Nat.le_of_ble_eq_true rfl)) dX7_adds_68 ⟨Nat.zero_le _, Nat.zero_le _⟩) hD hS hA (fun _ => rfl) (fun H locs hP hD hS => ?_)
  refine lv_if_ne (tgt := 96) hx hb dX7_adds_71 (by decide) (fun c_71 => ?_) (fun c_71 => ?_)
  · have h := br_F h c_71
    refine lv_iconst (v := 0) hx hb dX7_adds_96 (by decide) ?_
    exact MQi.end hx hb hr hlocks hP hS dX7_adds_97 rfl h
  · have h := br_T h c_71
    refine lv_aload_n hx hb dX7_adds_74 rfl (lv_at hl 0 rfl) ?_
    refine lv_aload_n hx hb dX7_adds_75 rfl (lv_at hl 0 rfl) ?_
    refine va_get (D := G.1) (ci := 8) (v := .int (u_3.2.1 1)) (C := RX7) (T := TX7) (N := 24) hx hb hts in_wsX7_adds_X7 hown hK.1 hP 0 rfl rfl 17 (by decide) (w_mem hts 1 rfl) (fun _ h9 => h9) rfl dX7_adds_76 ?_
    refine lv_bipush (v := 20) hx hb dX7_adds_79 (by decide) ?_
    refine lv_icmp_ne (tgt := 88) hx hb dX7_adds_81 (by decide) (fun c_81 => ?_) (fun c_81 => ?_)
    · have h := br_F h c_81
      refine lv_iconst (v := 0) hx hb dX7_adds_88 (by decide) ?_
      exact wX7_adds_89 bx hA hK u_3.2 x1 x2 x3 x4 0 h hP hD hS _ (lv_sub hl [0, 1, 2, 3, 4] rfl)
    · have h := br_T h c_81
      refine lv_iconst (v := 1) hx hb dX7_adds_84 (by decide) ?_
      refine lv_goto (tgt := 89) hx hb dX7_adds_85 (by decide) ?_
      exact wX7_adds_89 bx hA hK u_3.2 x1 x2 x3 x4 1 h hP hD hS _ (lv_sub hl [0, 1, 2, 3, 4] rfl)

set_option maxHeartbeats 4000000 in
set_option maxRecDepth 100000 in
theorem wX7_adds_62 {p : Program} {l : Launch} {e : Env} {s : State} {m : MethodId} {args : Array Value} {below : List Frame} {meth : Method} {c : Code} {G : GT} {q : Nat → Nat} {A : Nat → Prop} {out : Int32 × St} (bx : BX p RX7 wsX7_adds cX7_adds 5 (some .int) s m args meth c) (hA : ∀ q : Nat, s.heap.size ≤ q → A q) (hK : CK G s) (C : St) (x1 : Int32) (x2 : Int32) (x3 : Int32) (x4 : Int32) (h : pX7_adds_62 C x1 x2 x3 x4 = some out) {H : Heap} {locs : List Loc} (hP : va_P G.1 vwCl (MW G q C) H) (hD : va_D A (MW G q C)) (hS : va_S A s.heap H locs) (ls : Array Slot) (hl : lv_has ls 5 [(0, .ref (q 0)), (1, .int x1), (2, .int x2), (3, .int x3), (4, .int x4)]) : W p l e rmX7_adds s m args below meth c H locs 0 0 (MQi G (MW G q) A s args below out) (F0 m 62 ls [.ref (q 0)]) := by
  obtain ⟨hx, hb, hr, hts, hown, hml, hlocks⟩ := id bx
  unfold pX7_adds_62 at h
  refine lv_iconst (v := 1) hx hb dX7_adds_62 (by decide) ?_
  refine lv_goto (tgt := 67) hx hb dX7_adds_63 (by decide) ?_
  exact wX7_adds_67 bx hA hK C x1 x2 x3 x4 1 h hP hD hS _ (lv_sub hl [0, 1, 2, 3, 4] rfl)

set_option maxHeartbeats 4000000 in
set_option maxRecDepth 100000 in
theorem wX7_adds_66 {p : Program} {l : Launch} {e : Env} {s : State} {m : MethodId} {args : Array Value} {below : List Frame} {meth : Method} {c : Code} {G : GT} {q : Nat → Nat} {A : Nat → Prop} {out : Int32 × St} (bx : BX p RX7 wsX7_adds cX7_adds 5 (some .int) s m args meth c) (hA : ∀ q : Nat, s.heap.size ≤ q → A q) (hK : CK G s) (C : St) (x1 : Int32) (x2 : Int32) (x3 : Int32) (x4 : Int32) (h : pX7_adds_66 C x1 x2 x3 x4 = some out) {H : Heap} {locs : List Loc} (hP : va_P G.1 vwCl (MW G q C) H) (hD : va_D A (MW G q C)) (hS : va_S A s.heap H locs) (ls : Array Slot) (hl : lv_has ls 5 [(0, .ref (q 0)), (1, .int x1), (2, .int x2), (3, .int x3), (4, .int x4)]) : W p l e rmX7_adds s m args below meth c H locs 0 0 (MQi G (MW G q) A s args below out) (F0 m 66 ls [.ref (q 0)]) := by
  obtain ⟨hx, hb, hr, hts, hown, hml, hlocks⟩ := id bx
  unfold pX7_adds_66 at h
  refine lv_iconst (v := 0) hx hb dX7_adds_66 (by decide) ?_
  exact wX7_adds_67 bx hA hK C x1 x2 x3 x4 0 h hP hD hS _ (lv_sub hl [0, 1, 2, 3, 4] rfl)

set_option maxHeartbeats 4000000 in
set_option maxRecDepth 100000 in
theorem wX7_adds_31 {p : Program} {l : Launch} {e : Env} {s : State} {m : MethodId} {args : Array Value} {below : List Frame} {meth : Method} {c : Code} {G : GT} {q : Nat → Nat} {A : Nat → Prop} {out : Int32 × St} (bx : BX p RX7 wsX7_adds cX7_adds 5 (some .int) s m args meth c) (hA : ∀ q : Nat, s.heap.size ≤ q → A q) (hK : CK G s) (C : St) (x1 : Int32) (x2 : Int32) (x3 : Int32) (x4 : Int32) (t1 : Int32) (h : pX7_adds_31 C x1 x2 x3 x4 t1 = some out) {H : Heap} {locs : List Loc} (hP : va_P G.1 vwCl (MW G q C) H) (hD : va_D A (MW G q C)) (hS : va_S A s.heap H locs) (ls : Array Slot) (hl : lv_has ls 5 [(0, .ref (q 0)), (1, .int x1), (2, .int x2), (3, .int x3), (4, .int x4)]) : W p l e rmX7_adds s m args below meth c H locs 0 0 (MQi G (MW G q) A s args below out) (F0 m 31 ls [.int t1, .ref (q 0)]) := by
  obtain ⟨hx, hb, hr, hts, hown, hml, hlocks⟩ := id bx
  unfold pX7_adds_31 at h
  refine lv_iconst (v := 1) hx hb dX7_adds_31 (by decide) ?_
  obtain ⟨u_2, hu_2, h⟩ := bd_ex h
  refine wr_i (Wd := MW G q) (va_runV (As := [.int t1, .int 1]) (rest := []) ⟨hx, hb, hml, hown, hts⟩ (kX7_isThrown l G q C _ t1 1 u_2 hu_2) (cwV 2 hts gX7_adds_X7_isThrown rfl rfl rfl (by decide +kernel) ⟨Nat.le_of_ble_eq_true rfl, Nat.le_of_ble_eq_true rfl⟩) (wrV hP hD hK 8 0 rfl rfl) rfl rfl hl.1 rfl (lv_room (Nat.le_of_ble_eq_true rfl)) dX7_adds_32 ⟨Nat.zero_le _, Nat.zero_le _⟩) hD hS hA (fun _ => rfl) (fun H locs hP hD hS => ?_)
  refine lv_if_ne (tgt := 96) hx hb dX7_adds_35 (by decide) (fun c_35 => ?_) (fun c_35 => ?_)
  · have h := br_F h c_35
    refine lv_iconst (v := 0) hx hb dX7_adds_96 (by decide) ?_
    exact MQi.end hx hb hr hlocks hP hS dX7_adds_97 rfl h
  · have h := br_T h c_35
    refine lv_aload_n hx hb dX7_adds_38 rfl (lv_at hl 0 rfl) ?_
    refine lv_iload_n hx hb dX7_adds_39 rfl (lv_at hl 2 rfl) ?_
    refine lv_iload_n hx hb dX7_adds_40 rfl (lv_at hl 3 rfl) ?_
    refine lv_icmp_eq (tgt := 62) hx hb dX7_adds_41 (by decide) (fun c_41 => ?_) (fun c_41 => ?_)
    · have h := br_T h c_41
      exact wX7_adds_62 bx hA hK u_2.2 x1 x2 x3 x4 h hP hD hS _ (lv_sub hl [0, 1, 2, 3, 4] rfl)
    · have h := br_F h c_41
      refine lv_iload_n hx hb dX7_adds_44 rfl (lv_at hl 1 rfl) ?_
      refine lv_bipush (v := 97) hx hb dX7_adds_45 (by decide) ?_
      refine lv_icmp_ne (tgt := 66) hx hb dX7_adds_47 (by decide) (fun c_47 => ?_) (fun c_47 => ?_)
      · have h := br_F h c_47
        exact wX7_adds_66 bx hA hK u_2.2 x1 x2 x3 x4 h hP hD hS _ (lv_sub hl [0, 1, 2, 3, 4] rfl)
      · have h := br_T h c_47
        refine lv_iload_n hx hb dX7_adds_50 rfl (lv_at hl 2 rfl) ?_
        refine lv_iload hx hb dX7_adds_51 (lv_at hl 4 rfl) ?_
        refine lv_icmp_eq (tgt := 62) hx hb dX7_adds_53 (by decide) (fun c_53 => ?_) (fun c_53 => ?_)
        · have h := br_T h c_53
          exact wX7_adds_62 bx hA hK u_2.2 x1 x2 x3 x4 h hP hD hS _ (lv_sub hl [0, 1, 2, 3, 4] rfl)
        · have h := br_F h c_53
          refine lv_iload_n hx hb dX7_adds_56 rfl (lv_at hl 3 rfl) ?_
          refine lv_iload hx hb dX7_adds_57 (lv_at hl 4 rfl) ?_
          refine lv_icmp_ne (tgt := 66) hx hb dX7_adds_59 (by decide) (fun c_59 => ?_) (fun c_59 => ?_)
          · have h := br_F h c_59
            exact wX7_adds_66 bx hA hK u_2.2 x1 x2 x3 x4 h hP hD hS _ (lv_sub hl [0, 1, 2, 3, 4] rfl)
          · have h := br_T h c_59
            exact wX7_adds_62 bx hA hK u_2.2 x1 x2 x3 x4 h hP hD hS _ (lv_sub hl [0, 1, 2, 3, 4] rfl)

set_option maxHeartbeats 4000000 in
set_option maxRecDepth 100000 in
theorem wX7_adds_26 {p : Program} {l : Launch} {e : Env} {s : State} {m : MethodId} {args : Array Value} {below : List Frame} {meth : Method} {c : Code} {G : GT} {q : Nat → Nat} {A : Nat → Prop} {out : Int32 × St} (bx : BX p RX7 wsX7_adds cX7_adds 5 (some .int) s m args meth c) (hA : ∀ q : Nat, s.heap.size ≤ q → A q) (hK : CK G s) (C : St) (x1 : Int32) (x2 : Int32) (x3 : Int32) (x4 : Int32) (h : pX7_adds_26 C x1 x2 x3 x4 = some out) {H : Heap} {locs : List Loc} (hP : va_P G.1 vwCl (MW G q C) H) (hD : va_D A (MW G q C)) (hS : va_S A s.heap H locs) (ls : Array Slot) (hl : lv_has ls 5 [(0, .ref (q 0)), (1, .int x1), (2, .int x2), (3, .int x3), (4, .int x4)]) : W p l e rmX7_adds s m args below meth c H locs 0 0 (MQi G (MW G q) A s args below out) (F0 m 26 ls [.ref (q 0)]) := by
  obtain ⟨hx, hb, hr, hts, hown, hml, hlocks⟩ := id bx
  unfold pX7_adds_26 at h
  refine lv_iconst (v := 1) hx hb dX7_adds_26 (by decide) ?_
  refine lv_goto (tgt := 31) hx hb dX7_adds_27 (by decide) ?_
  exact wX7_adds_31 bx hA hK C x1 x2 x3 x4 1 h hP hD hS _ (lv_sub hl [0, 1, 2, 3, 4] rfl)

set_option maxHeartbeats 4000000 in
set_option maxRecDepth 100000 in
theorem kX7_adds (l : Launch) (G : GT) (q : Nat → Nat) (C : St) (sz : Nat) (x1 : Int32) (x2 : Int32) (x3 : Int32) (x4 : Int32) (r : Int32 × St) (h : pX7_adds C x1 x2 x3 x4 = some r) : Met l yX7_adds wsX7_adds rmX7_adds (va_Pc [.ref (q 0), .int x1, .int x2, .int x3, .int x4] (wrP G (MW G q C) sz)) (va_Qi (fun v u => (v, u) = r) (fun u t => va_P G.1 vwCl (MW G q u) t.heap) (va_A (MW G q C) sz)) 0 0 (va_A (MW G q C) sz) := by
  refine Met.ofW (cc := cX7_adds) (maxL := 5) (ret := (some .int)) (by decide) rfl ?_
  intro p e s m args below meth c s₁ B hml hv
  obtain ⟨rfl, hsz, hP, hK, hD0⟩ := hv
  have bx := bx_of B hml
  subst hsz
  have hD := hD0.self (sz := s.heap.size)
  generalize hAe : va_A (MW G q C) s.heap.size = A at hD ⊢
  have hA : ∀ q : Nat, s.heap.size ≤ q → A q := fun q h => by rw [← hAe]; exact Or.inr h
  have hS : va_S A s.heap s.heap [] := va_S.rf
  obtain ⟨hx, hb, hr, hts, hown, hml, hlocks⟩ := id bx
  have hl := lv_entry ([.ref (q 0), .int x1, .int x2, .int x3, .int x4]) (n := 5) (Nat.le_of_ble_eq_true rfl)
  rw [lg_entry_eq]
  generalize (lg_sl ([.ref (q 0), .int x1, .int x2, .int x3, .int x4]) ++ List.replicate (5 - (lg_sl ([.ref (q 0), .int x1, .int x2, .int x3, .int x4])).length) Slot.unset).toArray = ls at hl ⊢
  have hl : lv_has ls 5 [(0, .ref (q 0)), (1, .int x1), (2, .int x2), (3, .int x3), (4, .int x4)] := hl
  show W p l e rmX7_adds s m _ below meth c s.heap [] 0 0 (MQi G (MW G q) A s _ below r) (F0 m 0 ls [])
  unfold pX7_adds at h
  refine lv_aload_n hx hb dX7_adds_0 rfl (lv_at hl 0 rfl) ?_
  refine lv_aload_n hx hb dX7_adds_1 rfl (lv_at hl 0 rfl) ?_
  refine lv_iload_n hx hb dX7_adds_2 rfl (lv_at hl 2 rfl) ?_
  obtain ⟨r_1, hr_1, h⟩ := bd_ex h
  refine ro_i (va_runV (As := [.int x2]) (rest := [.ref (q 0)]) ⟨hx, hb, hml, hown, hts⟩ (kX7_isNone l G q C x2 r_1 hr_1) (cwV 1 hts gX7_adds_X7_isNone rfl rfl rfl (by decide +kernel) ⟨Nat.le_of_ble_eq_true rfl, Nat.le_of_ble_eq_true rfl⟩) (roV hP hK 8 0 rfl rfl) rfl rfl hl.1 rfl (lv_room (Nat.le_of_ble_eq_true rfl)) dX7_adds_3 ⟨Nat.zero_le _, Nat.zero_le _⟩) ?_
  refine lv_if_ne (tgt := 26) hx hb dX7_adds_6 (by decide) (fun c_6 => ?_) (fun c_6 => ?_)
  · have h := br_F h c_6
    exact wX7_adds_26 bx hA hK C x1 x2 x3 x4 h hP hD hS _ (lv_sub hl [0, 1, 2, 3, 4] rfl)
  · have h := br_T h c_6
    refine lv_aload_n hx hb dX7_adds_9 rfl (lv_at hl 0 rfl) ?_
    refine lv_iload_n hx hb dX7_adds_10 rfl (lv_at hl 3 rfl) ?_
    obtain ⟨r_14, hr_14, h⟩ := bd_ex h
    refine ro_i (va_runV (As := [.int x3]) (rest := [.ref (q 0)]) ⟨hx, hb, hml, hown, hts⟩ (kX7_isNone l G q C x3 r_14 hr_14) (cwV 1 hts gX7_adds_X7_isNone rfl rfl rfl (by decide +kernel) ⟨Nat.le_of_ble_eq_true rfl, Nat.le_of_ble_eq_true rfl⟩) (roV hP hK 8 0 rfl rfl) rfl rfl hl.1 rfl (lv_room (Nat.le_of_ble_eq_true rfl)) dX7_adds_11 ⟨Nat.zero_le _, Nat.zero_le _⟩) ?_
    refine lv_if_ne (tgt := 26) hx hb dX7_adds_14 (by decide) (fun c_14 => ?_) (fun c_14 => ?_)
    · have h := br_F h c_14
      exact wX7_adds_26 bx hA hK C x1 x2 x3 x4 h hP hD hS _ (lv_sub hl [0, 1, 2, 3, 4] rfl)
    · have h := br_T h c_14
      refine lv_aload_n hx hb dX7_adds_17 rfl (lv_at hl 0 rfl) ?_
      refine lv_iload hx hb dX7_adds_18 (lv_at hl 4 rfl) ?_
      obtain ⟨r_15, hr_15, h⟩ := bd_ex h
      refine ro_i (va_runV (As := [.int x4]) (rest := [.ref (q 0)]) ⟨hx, hb, hml, hown, hts⟩ (kX7_isNone l G q C x4 r_15 hr_15) (cwV 1 hts gX7_adds_X7_isNone rfl rfl rfl (by decide +kernel) ⟨Nat.le_of_ble_eq_true rfl, Nat.le_of_ble_eq_true rfl⟩) (roV hP hK 8 0 rfl rfl) rfl rfl hl.1 rfl (lv_room (Nat.le_of_ble_eq_true rfl)) dX7_adds_20 ⟨Nat.zero_le _, Nat.zero_le _⟩) ?_
      refine lv_if_eq (tgt := 30) hx hb dX7_adds_23 (by decide) (fun c_23 => ?_) (fun c_23 => ?_)
      · have h := br_T h c_23
        refine lv_iconst (v := 0) hx hb dX7_adds_30 (by decide) ?_
        exact wX7_adds_31 bx hA hK C x1 x2 x3 x4 0 h hP hD hS _ (lv_sub hl [0, 1, 2, 3, 4] rfl)
      · have h := br_F h c_23
        exact wX7_adds_26 bx hA hK C x1 x2 x3 x4 h hP hD hS _ (lv_sub hl [0, 1, 2, 3, 4] rfl)

def rmX7_require : Room := { frames := 6, cells := 0, slots := 0, locals := 134 }

set_option maxHeartbeats 4000000 in
set_option maxRecDepth 100000 in
theorem kX7_require (l : Launch) (G : GT) (q : Nat → Nat) (C : St) (sz : Nat) (x1 : Int32) (x2 : Int32) (r : Int32 × St) (h : pX7_require C x1 x2 = some r) : Met l yX7_require wsX7_require rmX7_require (va_Pc [.ref (q 0), .int x1, .int x2] (wrP G (MW G q C) sz)) (va_Qi (fun v u => (v, u) = r) (fun u t => va_P G.1 vwCl (MW G q u) t.heap) (va_A (MW G q C) sz)) 0 0 (va_A (MW G q C) sz) := by
  refine Met.ofW (cc := cX7_require) (maxL := 3) (ret := (some .int)) (by decide) rfl ?_
  intro p e s m args below meth c s₁ B hml hv
  obtain ⟨rfl, hsz, hP, hK, hD0⟩ := hv
  have bx := bx_of B hml
  subst hsz
  have hD := hD0.self (sz := s.heap.size)
  generalize hAe : va_A (MW G q C) s.heap.size = A at hD ⊢
  have hA : ∀ q : Nat, s.heap.size ≤ q → A q := fun q h => by rw [← hAe]; exact Or.inr h
  have hS : va_S A s.heap s.heap [] := va_S.rf
  obtain ⟨hx, hb, hr, hts, hown, hml, hlocks⟩ := id bx
  have hl := lv_entry ([.ref (q 0), .int x1, .int x2]) (n := 3) (Nat.le_of_ble_eq_true rfl)
  rw [lg_entry_eq]
  generalize (lg_sl ([.ref (q 0), .int x1, .int x2]) ++ List.replicate (3 - (lg_sl ([.ref (q 0), .int x1, .int x2])).length) Slot.unset).toArray = ls at hl ⊢
  have hl : lv_has ls 3 [(0, .ref (q 0)), (1, .int x1), (2, .int x2)] := hl
  show W p l e rmX7_require s m _ below meth c s.heap [] 0 0 (MQi G (MW G q) A s _ below r) (F0 m 0 ls [])
  unfold pX7_require at h
  refine lv_aload_n hx hb dX7_require_0 rfl (lv_at hl 0 rfl) ?_
  refine lv_bipush (v := 114) hx hb dX7_require_1 (by decide) ?_
  refine lv_iload_n hx hb dX7_require_3 rfl (lv_at hl 1 rfl) ?_
  refine lv_iload_n hx hb dX7_require_4 rfl (lv_at hl 2 rfl) ?_
  refine lv_iload_n hx hb dX7_require_5 rfl (lv_at hl 1 rfl) ?_
  obtain ⟨u_1, hu_1, h⟩ := bd_ex h
  refine wr_i (Wd := MW G q) (va_runV (As := [.int 114, .int x1, .int x2, .int x1]) (rest := []) ⟨hx, hb, hml, hown, hts⟩ (kX7_adds l G q C _ 114 x1 x2 x1 u_1 hu_1) (cwV 4 hts gX7_require_X7_adds rfl rfl rfl (by decide +kernel) ⟨Nat.le_of_ble_eq_true rfl, Nat.le_of_ble_eq_true rfl⟩) (wrV hP hD hK 8 0 rfl rfl) rfl rfl hl.1 rfl (lv_room (Nat.le_of_ble_eq_true rfl)) dX7_require_6 ⟨Nat.zero_le _, Nat.zero_le _⟩) hD hS hA (fun _ => rfl) (fun H locs hP hD hS => ?_)
  exact MQi.end hx hb hr hlocks hP hS dX7_require_9 rfl h

def rmX7_exclude : Room := { frames := 6, cells := 0, slots := 0, locals := 134 }

set_option maxHeartbeats 4000000 in
set_option maxRecDepth 100000 in
theorem kX7_exclude (l : Launch) (G : GT) (q : Nat → Nat) (C : St) (sz : Nat) (x1 : Int32) (x2 : Int32) (r : Int32 × St) (h : pX7_exclude C x1 x2 = some r) : Met l yX7_exclude wsX7_exclude rmX7_exclude (va_Pc [.ref (q 0), .int x1, .int x2] (wrP G (MW G q C) sz)) (va_Qi (fun v u => (v, u) = r) (fun u t => va_P G.1 vwCl (MW G q u) t.heap) (va_A (MW G q C) sz)) 0 0 (va_A (MW G q C) sz) := by
  refine Met.ofW (cc := cX7_exclude) (maxL := 3) (ret := (some .int)) (by decide) rfl ?_
  intro p e s m args below meth c s₁ B hml hv
  obtain ⟨rfl, hsz, hP, hK, hD0⟩ := hv
  have bx := bx_of B hml
  subst hsz
  have hD := hD0.self (sz := s.heap.size)
  generalize hAe : va_A (MW G q C) s.heap.size = A at hD ⊢
  have hA : ∀ q : Nat, s.heap.size ≤ q → A q := fun q h => by rw [← hAe]; exact Or.inr h
  have hS : va_S A s.heap s.heap [] := va_S.rf
  obtain ⟨hx, hb, hr, hts, hown, hml, hlocks⟩ := id bx
  have hl := lv_entry ([.ref (q 0), .int x1, .int x2]) (n := 3) (Nat.le_of_ble_eq_true rfl)
  rw [lg_entry_eq]
  generalize (lg_sl ([.ref (q 0), .int x1, .int x2]) ++ List.replicate (3 - (lg_sl ([.ref (q 0), .int x1, .int x2])).length) Slot.unset).toArray = ls at hl ⊢
  have hl : lv_has ls 3 [(0, .ref (q 0)), (1, .int x1), (2, .int x2)] := hl
  show W p l e rmX7_exclude s m _ below meth c s.heap [] 0 0 (MQi G (MW G q) A s _ below r) (F0 m 0 ls [])
  unfold pX7_exclude at h
  refine lv_aload_n hx hb dX7_exclude_0 rfl (lv_at hl 0 rfl) ?_
  refine lv_bipush (v := 101) hx hb dX7_exclude_1 (by decide) ?_
  refine lv_iload_n hx hb dX7_exclude_3 rfl (lv_at hl 1 rfl) ?_
  refine lv_iload_n hx hb dX7_exclude_4 rfl (lv_at hl 2 rfl) ?_
  refine lv_iload_n hx hb dX7_exclude_5 rfl (lv_at hl 1 rfl) ?_
  obtain ⟨u_1, hu_1, h⟩ := bd_ex h
  refine wr_i (Wd := MW G q) (va_runV (As := [.int 101, .int x1, .int x2, .int x1]) (rest := []) ⟨hx, hb, hml, hown, hts⟩ (kX7_adds l G q C _ 101 x1 x2 x1 u_1 hu_1) (cwV 4 hts gX7_exclude_X7_adds rfl rfl rfl (by decide +kernel) ⟨Nat.le_of_ble_eq_true rfl, Nat.le_of_ble_eq_true rfl⟩) (wrV hP hD hK 8 0 rfl rfl) rfl rfl hl.1 rfl (lv_room (Nat.le_of_ble_eq_true rfl)) dX7_exclude_6 ⟨Nat.zero_le _, Nat.zero_le _⟩) hD hS hA (fun _ => rfl) (fun H locs hP hD hS => ?_)
  exact MQi.end hx hb hr hlocks hP hS dX7_exclude_9 rfl h

def rmX7_any : Room := { frames := 6, cells := 0, slots := 0, locals := 134 }

set_option maxHeartbeats 4000000 in
set_option maxRecDepth 100000 in
theorem kX7_any (l : Launch) (G : GT) (q : Nat → Nat) (C : St) (sz : Nat) (x1 : Int32) (x2 : Int32) (x3 : Int32) (r : Int32 × St) (h : pX7_any C x1 x2 x3 = some r) : Met l yX7_any wsX7_any rmX7_any (va_Pc [.ref (q 0), .int x1, .int x2, .int x3] (wrP G (MW G q C) sz)) (va_Qi (fun v u => (v, u) = r) (fun u t => va_P G.1 vwCl (MW G q u) t.heap) (va_A (MW G q C) sz)) 0 0 (va_A (MW G q C) sz) := by
  refine Met.ofW (cc := cX7_any) (maxL := 4) (ret := (some .int)) (by decide) rfl ?_
  intro p e s m args below meth c s₁ B hml hv
  obtain ⟨rfl, hsz, hP, hK, hD0⟩ := hv
  have bx := bx_of B hml
  subst hsz
  have hD := hD0.self (sz := s.heap.size)
  generalize hAe : va_A (MW G q C) s.heap.size = A at hD ⊢
  have hA : ∀ q : Nat, s.heap.size ≤ q → A q := fun q h => by rw [← hAe]; exact Or.inr h
  have hS : va_S A s.heap s.heap [] := va_S.rf
  obtain ⟨hx, hb, hr, hts, hown, hml, hlocks⟩ := id bx
  have hl := lv_entry ([.ref (q 0), .int x1, .int x2, .int x3]) (n := 4) (Nat.le_of_ble_eq_true rfl)
  rw [lg_entry_eq]
  generalize (lg_sl ([.ref (q 0), .int x1, .int x2, .int x3]) ++ List.replicate (4 - (lg_sl ([.ref (q 0), .int x1, .int x2, .int x3])).length) Slot.unset).toArray = ls at hl ⊢
  have hl : lv_has ls 4 [(0, .ref (q 0)), (1, .int x1), (2, .int x2), (3, .int x3)] := hl
  show W p l e rmX7_any s m _ below meth c s.heap [] 0 0 (MQi G (MW G q) A s _ below r) (F0 m 0 ls [])
  unfold pX7_any at h
  refine lv_aload_n hx hb dX7_any_0 rfl (lv_at hl 0 rfl) ?_
  refine lv_bipush (v := 97) hx hb dX7_any_1 (by decide) ?_
  refine lv_iload_n hx hb dX7_any_3 rfl (lv_at hl 1 rfl) ?_
  refine lv_iload_n hx hb dX7_any_4 rfl (lv_at hl 2 rfl) ?_
  refine lv_iload_n hx hb dX7_any_5 rfl (lv_at hl 3 rfl) ?_
  obtain ⟨u_1, hu_1, h⟩ := bd_ex h
  refine wr_i (Wd := MW G q) (va_runV (As := [.int 97, .int x1, .int x2, .int x3]) (rest := []) ⟨hx, hb, hml, hown, hts⟩ (kX7_adds l G q C _ 97 x1 x2 x3 u_1 hu_1) (cwV 4 hts gX7_any_X7_adds rfl rfl rfl (by decide +kernel) ⟨Nat.le_of_ble_eq_true rfl, Nat.le_of_ble_eq_true rfl⟩) (wrV hP hD hK 8 0 rfl rfl) rfl rfl hl.1 rfl (lv_room (Nat.le_of_ble_eq_true rfl)) dX7_any_6 ⟨Nat.zero_le _, Nat.zero_le _⟩) hD hS hA (fun _ => rfl) (fun H locs hP hD hS => ?_)
  exact MQi.end hx hb hr hlocks hP hS dX7_any_9 rfl h

def rmX7_lift : Room := { frames := 1, cells := 0, slots := 0, locals := 22 }

theorem in_wsX7_lift_X7 : ∀ w ∈ u_ws RX7 TX7 24, w ∈ wsX7_lift := by decide +kernel

set_option maxHeartbeats 4000000 in
set_option maxRecDepth 100000 in
theorem wX7_lift_77 {p : Program} {l : Launch} {e : Env} {s : State} {m : MethodId} {args : Array Value} {below : List Frame} {meth : Method} {c : Code} {G : GT} {q : Nat → Nat} {A : Nat → Prop} {out : Int32 × St} (bx : BX p RX7 wsX7_lift cX7_lift 4 (some .int) s m args meth c) (hA : ∀ q : Nat, s.heap.size ≤ q → A q) (hK : CK G s) {k54 : St → Int32 → Int32 → Option (Int32 × St)} (hk54 : ∀ (C : St) (x2 : Int32) (x3 : Int32), k54 C x2 x3 = some out → ∀ (H : Heap) (locs : List Loc) (hP : va_P G.1 vwCl (MW G q C) H) (hD : va_D A (MW G q C)) (hS : va_S A s.heap H locs), ∀ (ls : Array Slot), lv_has ls 4 [(0, .ref (q 0)), (2, .int x2), (3, .int x3)] → W p l e rmX7_lift s m args below meth c H locs 0 0 (MQi G (MW G q) A s args below out) (F0 m 54 ls [])) (C : St) (x3 : Int32) (t0 : Int32) (t1 : Int32) (h : pX7_lift_77 k54 C x3 t0 t1 = some out) {H : Heap} {locs : List Loc} (hP : va_P G.1 vwCl (MW G q C) H) (hD : va_D A (MW G q C)) (hS : va_S A s.heap H locs) (ls : Array Slot) (hl : lv_has ls 4 [(0, .ref (q 0)), (3, .int x3)]) : W p l e rmX7_lift s m args below meth c H locs 0 0 (MQi G (MW G q) A s args below out) (F0 m 77 ls [.int t1, .int t0]) := by
  obtain ⟨hx, hb, hr, hts, hown, hml, hlocks⟩ := id bx
  unfold pX7_lift_77 at h
  refine lv_iadd hx hb dX7_lift_77 ?_
  refine lv_topi (fun v_5 ev_5 => ?_)
  have h := ltv_at h v_5 ev_5
  refine lv_istore_n (lv' := [(2, .int v_5), (0, .ref (q 0)), (3, .int x3)]) hx hb dX7_lift_78 rfl hl (by decide) rfl (fun ls hl => ?_)
  obtain ⟨v_6, ev_6, h⟩ := ltv_ex h
  refine lv_iinc (v := v_6) (lv' := [(3, .int v_6), (2, .int v_5), (0, .ref (q 0))]) hx hb dX7_lift_79 hl (k := 2) rfl (by rw [ev_6]; rfl) (by decide) rfl (fun ls hl => ?_)
  refine lv_goto (tgt := 54) hx hb dX7_lift_82 (by decide) ?_
  exact hk54 C v_5 v_6 h _ _ hP hD hS _ (lv_sub hl [2, 1, 0] rfl)

set_option maxHeartbeats 4000000 in
set_option maxRecDepth 100000 in
theorem wX7_lift_54_b {p : Program} {l : Launch} {e : Env} {s : State} {m : MethodId} {args : Array Value} {below : List Frame} {meth : Method} {c : Code} {G : GT} {q : Nat → Nat} {A : Nat → Prop} {out : Int32 × St} (bx : BX p RX7 wsX7_lift cX7_lift 4 (some .int) s m args meth c) (hA : ∀ q : Nat, s.heap.size ≤ q → A q) (hK : CK G s) {k54 : St → Int32 → Int32 → Option (Int32 × St)} (hk54 : ∀ (C : St) (x2 : Int32) (x3 : Int32), k54 C x2 x3 = some out → ∀ (H : Heap) (locs : List Loc) (hP : va_P G.1 vwCl (MW G q C) H) (hD : va_D A (MW G q C)) (hS : va_S A s.heap H locs), ∀ (ls : Array Slot), lv_has ls 4 [(0, .ref (q 0)), (2, .int x2), (3, .int x3)] → W p l e rmX7_lift s m args below meth c H locs 0 0 (MQi G (MW G q) A s args below out) (F0 m 54 ls [])) (C : St) (x2 : Int32) (x3 : Int32) (h : pX7_lift_54_b k54 C x2 x3 = some out) {H : Heap} {locs : List Loc} (hP : va_P G.1 vwCl (MW G q C) H) (hD : va_D A (MW G q C)) (hS : va_S A s.heap H locs) (ls : Array Slot) (hl : lv_has ls 4 [(0, .ref (q 0)), (2, .int x2), (3, .int x3)]) : W p l e rmX7_lift s m args below meth c H locs 0 0 (MQi G (MW G q) A s args below out) (F0 m 54 ls []) := by
  obtain ⟨hx, hb, hr, hts, hown, hml, hlocks⟩ := id bx
  unfold pX7_lift_54_b at h
  refine lv_iload_n hx hb dX7_lift_54 rfl (lv_at hl 2 rfl) ?_
  refine lv_aload_n hx hb dX7_lift_55 rfl (lv_at hl 0 rfl) ?_
  refine va_get (D := G.1) (ci := 8) (v := .int (C.1 1)) (C := RX7) (T := TX7) (N := 24) hx hb hts in_wsX7_lift_X7 hown hK.1 hP 0 rfl rfl 17 (by decide) (w_mem hts 1 rfl) (fun _ h9 => h9) rfl dX7_lift_56 ?_
  refine lv_icmp_ge (tgt := 85) hx hb dX7_lift_59 (by decide) (fun c_59 => ?_) (fun c_59 => ?_)
  · have h := br_T h c_59
    refine lv_iload_n hx hb dX7_lift_85 rfl (lv_at hl 1 rfl) ?_
    exact MQi.end hx hb hr hlocks hP hS dX7_lift_86 rfl h
  · have h := br_F h c_59
    refine lv_iload_n hx hb dX7_lift_62 rfl (lv_at hl 1 rfl) ?_
    refine lv_aload_n hx hb dX7_lift_63 rfl (lv_at hl 0 rfl) ?_
    refine va_get (D := G.1) (ci := 8) (v := .ref (q 6)) (C := RX7) (T := TX7) (N := 24) hx hb hts in_wsX7_lift_X7 hown hK.1 hP 0 rfl rfl 5 (by decide) (w_mem hts 2 rfl) (fun _ h9 => h9) rfl dX7_lift_64 ?_
    refine lv_iload_n hx hb dX7_lift_67 rfl (lv_at hl 2 rfl) ?_
    obtain ⟨g68, h⟩ := gd_ex h
    refine va_zald (D := G.1) hx hb hK.1 hP 6 2 rfl rfl g68 dX7_lift_68 ?_
    refine lv_if_eq (tgt := 76) hx hb dX7_lift_69 (by decide) (fun c_69 => ?_) (fun c_69 => ?_)
    · have h := br_T h c_69
      refine lv_iconst (v := 1) hx hb dX7_lift_76 (by decide) ?_
      exact wX7_lift_77 bx hA hK hk54 C x3 x2 1 h hP hD hS _ (lv_sub hl [0, 2] rfl)
    · have h := br_F h c_69
      refine lv_iconst (v := 0) hx hb dX7_lift_72 (by decide) ?_
      refine lv_goto (tgt := 77) hx hb dX7_lift_73 (by decide) ?_
      exact wX7_lift_77 bx hA hK hk54 C x3 x2 0 h hP hD hS _ (lv_sub hl [0, 2] rfl)

theorem wX7_lift_54 {p : Program} {l : Launch} {e : Env} {s : State} {m : MethodId} {args : Array Value} {below : List Frame} {meth : Method} {c : Code} {G : GT} {q : Nat → Nat} {A : Nat → Prop} {out : Int32 × St} (bx : BX p RX7 wsX7_lift cX7_lift 4 (some .int) s m args meth c) (hA : ∀ q : Nat, s.heap.size ≤ q → A q) (hK : CK G s) :
    ∀ (n : Nat) (C : St) (x2 : Int32) (x3 : Int32), pX7_lift_54 n C x2 x3 = some out → ∀ (H : Heap) (locs : List Loc) (hP : va_P G.1 vwCl (MW G q C) H) (hD : va_D A (MW G q C)) (hS : va_S A s.heap H locs), ∀ (ls : Array Slot), lv_has ls 4 [(0, .ref (q 0)), (2, .int x2), (3, .int x3)] → W p l e rmX7_lift s m args below meth c H locs 0 0 (MQi G (MW G q) A s args below out) (F0 m 54 ls []) := by
  intro n
  induction n with
  | zero => intro _ _ _ h; cases h
  | succ n ih => exact fun a0 a1 a2 h _ _ hP hD hS ls hl => wX7_lift_54_b bx hA hK ih a0 a1 a2 h hP hD hS ls hl

set_option maxHeartbeats 4000000 in
set_option maxRecDepth 100000 in
theorem wX7_lift_20 {p : Program} {l : Launch} {e : Env} {s : State} {m : MethodId} {args : Array Value} {below : List Frame} {meth : Method} {c : Code} {G : GT} {q : Nat → Nat} {A : Nat → Prop} {out : Int32 × St} (bx : BX p RX7 wsX7_lift cX7_lift 4 (some .int) s m args meth c) (hA : ∀ q : Nat, s.heap.size ≤ q → A q) (hK : CK G s) (C : St) (x1 : Int32) (t1 : Int32) (h : pX7_lift_20 C x1 t1 = some out) {H : Heap} {locs : List Loc} (hP : va_P G.1 vwCl (MW G q C) H) (hD : va_D A (MW G q C)) (hS : va_S A s.heap H locs) (ls : Array Slot) (hl : lv_has ls 4 [(0, .ref (q 0)), (1, .int x1)]) : W p l e rmX7_lift s m args below meth c H locs 0 0 (MQi G (MW G q) A s args below out) (F0 m 20 ls [.int t1, .ref (q 0)]) := by
  obtain ⟨hx, hb, hr, hts, hown, hml, hlocks⟩ := id bx
  unfold pX7_lift_20 at h
  refine lv_iconst (v := 1) hx hb dX7_lift_20 (by decide) ?_
  obtain ⟨u_2, hu_2, h⟩ := bd_ex h
  refine wr_i (Wd := MW G q) (va_runV (As := [.int t1, .int 1]) (rest := []) ⟨hx, hb, hml, hown, hts⟩ (kX7_isThrown l G q C _ t1 1 u_2 hu_2) (cwV 2 hts gX7_lift_X7_isThrown rfl rfl rfl (by decide +kernel) ⟨Nat.le_of_ble_eq_true rfl, Nat.le_of_ble_eq_true rfl⟩) (wrV hP hD hK 8 0 rfl rfl) rfl rfl hl.1 rfl (lv_room (Nat.le_of_ble_eq_true rfl)) dX7_lift_21 ⟨Nat.zero_le _, Nat.zero_le _⟩) hD hS hA (fun _ => rfl) (fun H locs hP hD hS => ?_)
  refine lv_if_ne (tgt := 41) hx hb dX7_lift_24 (by decide) (fun c_24 => ?_) (fun c_24 => ?_)
  · have h := br_F h c_24
    refine lv_iconst (v := 0) hx hb dX7_lift_41 (by decide) ?_
    exact MQi.end hx hb hr hlocks hP hS dX7_lift_42 rfl h
  · have h := br_T h c_24
    refine lv_aload_n hx hb dX7_lift_27 rfl (lv_at hl 0 rfl) ?_
    refine lv_aload_n hx hb dX7_lift_28 rfl (lv_at hl 0 rfl) ?_
    refine va_get (D := G.1) (ci := 8) (v := .ref (q 6)) (C := RX7) (T := TX7) (N := 24) hx hb hts in_wsX7_lift_X7 hown hK.1 hP 0 rfl rfl 5 (by decide) (w_mem hts 2 rfl) (fun _ h9 => h9) rfl dX7_lift_29 ?_
    refine lv_iload_n hx hb dX7_lift_32 rfl (lv_at hl 1 rfl) ?_
    obtain ⟨g33, h⟩ := gd_ex h
    refine va_zald (D := G.1) hx hb hK.1 hP 6 2 rfl rfl g33 dX7_lift_33 ?_
    refine lv_iconst (v := 2) hx hb dX7_lift_34 (by decide) ?_
    obtain ⟨u_3, hu_3, h⟩ := bd_ex h
    refine wr_i (Wd := MW G q) (va_runV (As := [.int (u_2.2.2 5 x1.toNatClampNeg), .int 2]) (rest := []) ⟨hx, hb, hml, hown, hts⟩ (kX7_isThrown l G q u_2.2 _ (u_2.2.2 5 x1.toNatClampNeg) 2 u_3 hu_3) (cwV 2 hts gX7_lift_X7_isThrown rfl rfl rfl (by decide +kernel) ⟨Nat.le_of_ble_eq_true rfl, Nat.le_of_ble_eq_true rfl⟩) (wrV hP hD hK 8 0 rfl rfl) rfl rfl hl.1 rfl (lv_room (Nat.le_of_ble_eq_true rfl)) dX7_lift_35 ⟨Nat.zero_le _, Nat.zero_le _⟩) hD hS hA (fun _ => rfl) (fun H locs hP hD hS => ?_)
    refine lv_if_eq (tgt := 43) hx hb dX7_lift_38 (by decide) (fun c_38 => ?_) (fun c_38 => ?_)
    · have h := br_T h c_38
      refine lv_aload_n hx hb dX7_lift_43 rfl (lv_at hl 0 rfl) ?_
      refine va_get (D := G.1) (ci := 8) (v := .ref (q 6)) (C := RX7) (T := TX7) (N := 24) hx hb hts in_wsX7_lift_X7 hown hK.1 hP 0 rfl rfl 5 (by decide) (w_mem hts 2 rfl) (fun _ h9 => h9) rfl dX7_lift_44 ?_
      refine lv_iload_n hx hb dX7_lift_47 rfl (lv_at hl 1 rfl) ?_
      refine lv_iconst (v := 1) hx hb dX7_lift_48 (by decide) ?_
      obtain ⟨g49, h⟩ := gd_ex h
      refine va_zast (D := G.1) hx hb hK.1 hP hD hS 6 2 rfl rfl g49 dX7_lift_49 (fun H locs hP hD hS => ?_)
      have hP : va_P G.1 vwCl (MW G q (sA u_3.2 5 x1.toNatClampNeg (vp_nar .boolean 1))) H := hP
      have hD : va_D A (MW G q (sA u_3.2 5 x1.toNatClampNeg (vp_nar .boolean 1))) := hD
      obtain ⟨C_4, eC_4, h⟩ := ltv_ex h
      rw [← eC_4] at hP hD
      refine lv_iconst (v := 0) hx hb dX7_lift_50 (by decide) ?_
      refine lv_istore_n (lv' := [(2, .int 0), (0, .ref (q 0)), (1, .int x1)]) hx hb dX7_lift_51 rfl hl (by decide) rfl (fun ls hl => ?_)
      refine lv_iconst (v := 0) hx hb dX7_lift_52 (by decide) ?_
      refine lv_istore_n (lv' := [(3, .int 0), (2, .int 0), (0, .ref (q 0)), (1, .int x1)]) hx hb dX7_lift_53 rfl hl (by decide) rfl (fun ls hl => ?_)
      exact wX7_lift_54 bx hA hK FU C_4 0 0 h _ _ hP hD hS _ (lv_sub hl [2, 1, 0] rfl)
    · have h := br_F h c_38
      refine lv_iconst (v := 0) hx hb dX7_lift_41 (by decide) ?_
      exact MQi.end hx hb hr hlocks hP hS dX7_lift_42 rfl h

set_option maxHeartbeats 4000000 in
set_option maxRecDepth 100000 in
theorem kX7_lift (l : Launch) (G : GT) (q : Nat → Nat) (C : St) (sz : Nat) (x1 : Int32) (r : Int32 × St) (h : pX7_lift C x1 = some r) : Met l yX7_lift wsX7_lift rmX7_lift (va_Pc [.ref (q 0), .int x1] (wrP G (MW G q C) sz)) (va_Qi (fun v u => (v, u) = r) (fun u t => va_P G.1 vwCl (MW G q u) t.heap) (va_A (MW G q C) sz)) 0 0 (va_A (MW G q C) sz) := by
  refine Met.ofW (cc := cX7_lift) (maxL := 4) (ret := (some .int)) (by decide) rfl ?_
  intro p e s m args below meth c s₁ B hml hv
  obtain ⟨rfl, hsz, hP, hK, hD0⟩ := hv
  have bx := bx_of B hml
  subst hsz
  have hD := hD0.self (sz := s.heap.size)
  generalize hAe : va_A (MW G q C) s.heap.size = A at hD ⊢
  have hA : ∀ q : Nat, s.heap.size ≤ q → A q := fun q h => by rw [← hAe]; exact Or.inr h
  have hS : va_S A s.heap s.heap [] := va_S.rf
  obtain ⟨hx, hb, hr, hts, hown, hml, hlocks⟩ := id bx
  have hl := lv_entry ([.ref (q 0), .int x1]) (n := 4) (Nat.le_of_ble_eq_true rfl)
  rw [lg_entry_eq]
  generalize (lg_sl ([.ref (q 0), .int x1]) ++ List.replicate (4 - (lg_sl ([.ref (q 0), .int x1])).length) Slot.unset).toArray = ls at hl ⊢
  have hl : lv_has ls 4 [(0, .ref (q 0)), (1, .int x1)] := hl
  show W p l e rmX7_lift s m _ below meth c s.heap [] 0 0 (MQi G (MW G q) A s _ below r) (F0 m 0 ls [])
  unfold pX7_lift at h
  refine lv_aload_n hx hb dX7_lift_0 rfl (lv_at hl 0 rfl) ?_
  refine lv_iload_n hx hb dX7_lift_1 rfl (lv_at hl 1 rfl) ?_
  refine lv_iconst (v := 0) hx hb dX7_lift_2 (by decide) ?_
  refine lv_aload_n hx hb dX7_lift_3 rfl (lv_at hl 0 rfl) ?_
  refine va_get (D := G.1) (ci := 8) (v := .int (C.1 1)) (C := RX7) (T := TX7) (N := 24) hx hb hts in_wsX7_lift_X7 hown hK.1 hP 0 rfl rfl 17 (by decide) (w_mem hts 1 rfl) (fun _ h9 => h9) rfl dX7_lift_4 ?_
  refine lv_iconst (v := 1) hx hb dX7_lift_7 (by decide) ?_
  refine lv_isub hx hb dX7_lift_8 ?_
  obtain ⟨r_1, hr_1, h⟩ := bd_ex h
  refine ro_i (va_runS (As := [.int x1, .int 0, .int ((C.1 1) - 1)]) (rest := [.ref (q 0)]) ⟨hx, hb, hml, hown, hts⟩ (kX7_isIn l G q C x1 0 ((C.1 1) - 1) r_1 hr_1) (va_cwS 3 hts gX7_lift_X7_isIn rfl rfl rfl (by decide +kernel) ⟨Nat.le_of_ble_eq_true rfl, Nat.le_of_ble_eq_true rfl⟩) (roS hP hK) rfl rfl hl.1 rfl (lv_room (Nat.le_of_ble_eq_true rfl)) dX7_lift_9 ⟨Nat.zero_le _, Nat.zero_le _⟩) ?_
  refine lv_if_ne (tgt := 19) hx hb dX7_lift_12 (by decide) (fun c_12 => ?_) (fun c_12 => ?_)
  · have h := br_F h c_12
    refine lv_iconst (v := 0) hx hb dX7_lift_19 (by decide) ?_
    exact wX7_lift_20 bx hA hK C x1 0 h hP hD hS _ (lv_sub hl [0, 1] rfl)
  · have h := br_T h c_12
    refine lv_iconst (v := 1) hx hb dX7_lift_15 (by decide) ?_
    refine lv_goto (tgt := 20) hx hb dX7_lift_16 (by decide) ?_
    exact wX7_lift_20 bx hA hK C x1 1 h hP hD hS _ (lv_sub hl [0, 1] rfl)

def rmX7_decides : Room := { frames := 5, cells := 0, slots := 0, locals := 110 }

theorem in_wsX7_decides_X7 : ∀ w ∈ u_ws RX7 TX7 24, w ∈ wsX7_decides := by decide +kernel

set_option maxHeartbeats 4000000 in
set_option maxRecDepth 100000 in
theorem wX7_decides_125 {p : Program} {l : Launch} {e : Env} {s : State} {m : MethodId} {args : Array Value} {below : List Frame} {meth : Method} {c : Code} {G : GT} {q : Nat → Nat} {A : Nat → Prop} {out : Int32 × St} (bx : BX p RX7 wsX7_decides cX7_decides 3 (some .int) s m args meth c) (hA : ∀ q : Nat, s.heap.size ≤ q → A q) (hK : CK G s) (C : St) (h : pX7_decides_125 C = some out) {H : Heap} {locs : List Loc} (hP : va_P G.1 vwCl (MW G q C) H) (hD : va_D A (MW G q C)) (hS : va_S A s.heap H locs) (ls : Array Slot) (hl : lv_has ls 3 [(0, .ref (q 0))]) : W p l e rmX7_decides s m args below meth c H locs 0 0 (MQi G (MW G q) A s args below out) (F0 m 125 ls []) := by
  obtain ⟨hx, hb, hr, hts, hown, hml, hlocks⟩ := id bx
  unfold pX7_decides_125 at h
  refine lv_aload_n hx hb dX7_decides_125 rfl (lv_at hl 0 rfl) ?_
  obtain ⟨u_10, hu_10, h⟩ := bd_ex h
  refine wr_i (Wd := MW G q) (va_runV (As := []) (rest := []) ⟨hx, hb, hml, hown, hts⟩ (kX7_unknowns l G q C _ u_10 hu_10) (cwV 0 hts gX7_decides_X7_unknowns rfl rfl rfl (by decide +kernel) ⟨Nat.le_of_ble_eq_true rfl, Nat.le_of_ble_eq_true rfl⟩) (wrV hP hD hK 8 0 rfl rfl) rfl rfl hl.1 rfl (lv_room (Nat.le_of_ble_eq_true rfl)) dX7_decides_126 ⟨Nat.zero_le _, Nat.zero_le _⟩) hD hS hA (fun _ => rfl) (fun H locs hP hD hS => ?_)
  exact MQi.end hx hb hr hlocks hP hS dX7_decides_129 rfl h

set_option maxHeartbeats 4000000 in
set_option maxRecDepth 100000 in
theorem wX7_decides_81 {p : Program} {l : Launch} {e : Env} {s : State} {m : MethodId} {args : Array Value} {below : List Frame} {meth : Method} {c : Code} {G : GT} {q : Nat → Nat} {A : Nat → Prop} {out : Int32 × St} (bx : BX p RX7 wsX7_decides cX7_decides 3 (some .int) s m args meth c) (hA : ∀ q : Nat, s.heap.size ≤ q → A q) (hK : CK G s) (C : St) (x1 : Int32) (t1 : Int32) (t2 : Int32) (h : pX7_decides_81 C x1 t1 t2 = some out) {H : Heap} {locs : List Loc} (hP : va_P G.1 vwCl (MW G q C) H) (hD : va_D A (MW G q C)) (hS : va_S A s.heap H locs) (ls : Array Slot) (hl : lv_has ls 3 [(0, .ref (q 0)), (1, .int x1)]) : W p l e rmX7_decides s m args below meth c H locs 0 0 (MQi G (MW G q) A s args below out) (F0 m 81 ls [.int t2, .int t1, .ref (q 0)]) := by
  obtain ⟨hx, hb, hr, hts, hown, hml, hlocks⟩ := id bx
  unfold pX7_decides_81 at h
  refine lv_ior hx hb dX7_decides_81 ?_
  refine va_put (D := G.1) (ci := 8) (v := .int (t1 ||| t2)) (ty := .int) (C := RX7) (T := TX7) (N := 24) hx hb hts in_wsX7_decides_X7 tyX7 tyX7_ok nmX7 hown hK.1 hP hD hS 0 rfl rfl 20 (by decide) (w_mem hts 2 rfl) (fun _ h9 => h9) rfl (by decide +kernel) rfl rfl (Nat.le_of_ble_eq_true rfl) dX7_decides_82 (fun H locs hP hD hS => ?_)
  have hP : va_P G.1 vwCl (MW G q (sS C 4 (t1 ||| t2))) H := hP
  have hD : va_D A (MW G q (sS C 4 (t1 ||| t2))) := hD
  obtain ⟨C_7, eC_7, h⟩ := ltv_ex h
  rw [← eC_7] at hP hD
  refine lv_aload_n hx hb dX7_decides_85 rfl (lv_at hl 0 rfl) ?_
  refine lv_aload_n hx hb dX7_decides_86 rfl (lv_at hl 0 rfl) ?_
  obtain ⟨r_8, hr_8, h⟩ := bd_ex h
  refine ro_i (va_runV (As := []) (rest := [.ref (q 0)]) ⟨hx, hb, hml, hown, hts⟩ (kX7_isNoneLeft l G q C_7 r_8 hr_8) (cwV 0 hts gX7_decides_X7_isNoneLeft rfl rfl rfl (by decide +kernel) ⟨Nat.le_of_ble_eq_true rfl, Nat.le_of_ble_eq_true rfl⟩) (roV hP hK 8 0 rfl rfl) rfl rfl hl.1 rfl (lv_room (Nat.le_of_ble_eq_true rfl)) dX7_decides_87 ⟨Nat.zero_le _, Nat.zero_le _⟩) ?_
  refine lv_iconst (v := 4) hx hb dX7_decides_90 (by decide) ?_
  obtain ⟨u_9, hu_9, h⟩ := bd_ex h
  refine wr_i (Wd := MW G q) (va_runV (As := [.int r_8, .int 4]) (rest := []) ⟨hx, hb, hml, hown, hts⟩ (kX7_isThrown l G q C_7 _ r_8 4 u_9 hu_9) (cwV 2 hts gX7_decides_X7_isThrown rfl rfl rfl (by decide +kernel) ⟨Nat.le_of_ble_eq_true rfl, Nat.le_of_ble_eq_true rfl⟩) (wrV hP hD hK 8 0 rfl rfl) rfl rfl hl.1 rfl (lv_room (Nat.le_of_ble_eq_true rfl)) dX7_decides_91 ⟨Nat.zero_le _, Nat.zero_le _⟩) hD hS hA (fun _ => rfl) (fun H locs hP hD hS => ?_)
  refine lv_if_eq (tgt := 125) hx hb dX7_decides_94 (by decide) (fun c_94 => ?_) (fun c_94 => ?_)
  · have h := br_T h c_94
    exact wX7_decides_125 bx hA hK u_9.2 h hP hD hS _ (lv_sub hl [0] rfl)
  · have h := br_F h c_94
    refine lv_aload_n hx hb dX7_decides_97 rfl (lv_at hl 0 rfl) ?_
    refine lv_dup hx hb dX7_decides_98 rfl ?_
    refine va_get (D := G.1) (ci := 8) (v := .int (u_9.2.1 3)) (C := RX7) (T := TX7) (N := 24) hx hb hts in_wsX7_decides_X7 hown hK.1 hP 0 rfl rfl 19 (by decide) (w_mem hts 1 rfl) (fun _ h9 => h9) rfl dX7_decides_99 ?_
    refine lv_iconst (v := 1) hx hb dX7_decides_102 (by decide) ?_
    refine lv_iload_n hx hb dX7_decides_103 rfl (lv_at hl 1 rfl) ?_
    refine lv_ishl hx hb dX7_decides_104 ?_
    refine lv_iconst (v := (-1)) hx hb dX7_decides_105 (by decide) ?_
    refine lv_ixor hx hb dX7_decides_106 ?_
    refine lv_iand hx hb dX7_decides_107 ?_
    refine va_put (D := G.1) (ci := 8) (v := .int ((u_9.2.1 3) &&& (((1 : Int32) <<< (x1 &&& 31)) ^^^ (-1)))) (ty := .int) (C := RX7) (T := TX7) (N := 24) hx hb hts in_wsX7_decides_X7 tyX7 tyX7_ok nmX7 hown hK.1 hP hD hS 0 rfl rfl 19 (by decide) (w_mem hts 1 rfl) (fun _ h9 => h9) rfl (by decide +kernel) rfl rfl (Nat.le_of_ble_eq_true rfl) dX7_decides_108 (fun H locs hP hD hS => ?_)
    have hP : va_P G.1 vwCl (MW G q (sS u_9.2 3 ((u_9.2.1 3) &&& (((1 : Int32) <<< (x1 &&& 31)) ^^^ (-1))))) H := hP
    have hD : va_D A (MW G q (sS u_9.2 3 ((u_9.2.1 3) &&& (((1 : Int32) <<< (x1 &&& 31)) ^^^ (-1))))) := hD
    obtain ⟨C_11, eC_11, h⟩ := ltv_ex h
    rw [← eC_11] at hP hD
    refine lv_aload_n hx hb dX7_decides_111 rfl (lv_at hl 0 rfl) ?_
    refine lv_dup hx hb dX7_decides_112 rfl ?_
    refine va_get (D := G.1) (ci := 8) (v := .int (C_11.1 4)) (C := RX7) (T := TX7) (N := 24) hx hb hts in_wsX7_decides_X7 hown hK.1 hP 0 rfl rfl 20 (by decide) (w_mem hts 2 rfl) (fun _ h9 => h9) rfl dX7_decides_113 ?_
    refine lv_iconst (v := 1) hx hb dX7_decides_116 (by decide) ?_
    refine lv_iload_n hx hb dX7_decides_117 rfl (lv_at hl 1 rfl) ?_
    refine lv_ishl hx hb dX7_decides_118 ?_
    refine lv_iconst (v := (-1)) hx hb dX7_decides_119 (by decide) ?_
    refine lv_ixor hx hb dX7_decides_120 ?_
    refine lv_iand hx hb dX7_decides_121 ?_
    refine va_put (D := G.1) (ci := 8) (v := .int ((C_11.1 4) &&& (((1 : Int32) <<< (x1 &&& 31)) ^^^ (-1)))) (ty := .int) (C := RX7) (T := TX7) (N := 24) hx hb hts in_wsX7_decides_X7 tyX7 tyX7_ok nmX7 hown hK.1 hP hD hS 0 rfl rfl 20 (by decide) (w_mem hts 2 rfl) (fun _ h9 => h9) rfl (by decide +kernel) rfl rfl (Nat.le_of_ble_eq_true rfl) dX7_decides_122 (fun H locs hP hD hS => ?_)
    have hP : va_P G.1 vwCl (MW G q (sS C_11 4 ((C_11.1 4) &&& (((1 : Int32) <<< (x1 &&& 31)) ^^^ (-1))))) H := hP
    have hD : va_D A (MW G q (sS C_11 4 ((C_11.1 4) &&& (((1 : Int32) <<< (x1 &&& 31)) ^^^ (-1))))) := hD
    obtain ⟨C_12, eC_12, h⟩ := ltv_ex h
    rw [← eC_12] at hP hD
    exact wX7_decides_125 bx hA hK C_12 h hP hD hS _ (lv_sub hl [0] rfl)

set_option maxHeartbeats 4000000 in
set_option maxRecDepth 100000 in
theorem wX7_decides_61 {p : Program} {l : Launch} {e : Env} {s : State} {m : MethodId} {args : Array Value} {below : List Frame} {meth : Method} {c : Code} {G : GT} {q : Nat → Nat} {A : Nat → Prop} {out : Int32 × St} (bx : BX p RX7 wsX7_decides cX7_decides 3 (some .int) s m args meth c) (hA : ∀ q : Nat, s.heap.size ≤ q → A q) (hK : CK G s) (C : St) (x1 : Int32) (x2 : Int32) (t1 : Int32) (t2 : Int32) (h : pX7_decides_61 C x1 x2 t1 t2 = some out) {H : Heap} {locs : List Loc} (hP : va_P G.1 vwCl (MW G q C) H) (hD : va_D A (MW G q C)) (hS : va_S A s.heap H locs) (ls : Array Slot) (hl : lv_has ls 3 [(0, .ref (q 0)), (1, .int x1), (2, .int x2)]) : W p l e rmX7_decides s m args below meth c H locs 0 0 (MQi G (MW G q) A s args below out) (F0 m 61 ls [.int t2, .int t1, .ref (q 0)]) := by
  obtain ⟨hx, hb, hr, hts, hown, hml, hlocks⟩ := id bx
  unfold pX7_decides_61 at h
  refine lv_ior hx hb dX7_decides_61 ?_
  refine va_put (D := G.1) (ci := 8) (v := .int (t1 ||| t2)) (ty := .int) (C := RX7) (T := TX7) (N := 24) hx hb hts in_wsX7_decides_X7 tyX7 tyX7_ok nmX7 hown hK.1 hP hD hS 0 rfl rfl 19 (by decide) (w_mem hts 1 rfl) (fun _ h9 => h9) rfl (by decide +kernel) rfl rfl (Nat.le_of_ble_eq_true rfl) dX7_decides_62 (fun H locs hP hD hS => ?_)
  have hP : va_P G.1 vwCl (MW G q (sS C 3 (t1 ||| t2))) H := hP
  have hD : va_D A (MW G q (sS C 3 (t1 ||| t2))) := hD
  obtain ⟨C_6, eC_6, h⟩ := ltv_ex h
  rw [← eC_6] at hP hD
  refine lv_aload_n hx hb dX7_decides_65 rfl (lv_at hl 0 rfl) ?_
  refine lv_dup hx hb dX7_decides_66 rfl ?_
  refine va_get (D := G.1) (ci := 8) (v := .int (C_6.1 4)) (C := RX7) (T := TX7) (N := 24) hx hb hts in_wsX7_decides_X7 hown hK.1 hP 0 rfl rfl 20 (by decide) (w_mem hts 2 rfl) (fun _ h9 => h9) rfl dX7_decides_67 ?_
  refine lv_iload_n hx hb dX7_decides_70 rfl (lv_at hl 2 rfl) ?_
  refine lv_if_eq (tgt := 78) hx hb dX7_decides_71 (by decide) (fun c_71 => ?_) (fun c_71 => ?_)
  · have h := br_T h c_71
    refine lv_iconst (v := 1) hx hb dX7_decides_78 (by decide) ?_
    refine lv_iload_n hx hb dX7_decides_79 rfl (lv_at hl 1 rfl) ?_
    refine lv_ishl hx hb dX7_decides_80 ?_
    exact wX7_decides_81 bx hA hK C_6 x1 (C_6.1 4) ((1 : Int32) <<< (x1 &&& 31)) h hP hD hS _ (lv_sub hl [0, 1] rfl)
  · have h := br_F h c_71
    refine lv_iconst (v := 0) hx hb dX7_decides_74 (by decide) ?_
    refine lv_goto (tgt := 81) hx hb dX7_decides_75 (by decide) ?_
    exact wX7_decides_81 bx hA hK C_6 x1 (C_6.1 4) 0 h hP hD hS _ (lv_sub hl [0, 1] rfl)

set_option maxHeartbeats 4000000 in
set_option maxRecDepth 100000 in
theorem wX7_decides_23 {p : Program} {l : Launch} {e : Env} {s : State} {m : MethodId} {args : Array Value} {below : List Frame} {meth : Method} {c : Code} {G : GT} {q : Nat → Nat} {A : Nat → Prop} {out : Int32 × St} (bx : BX p RX7 wsX7_decides cX7_decides 3 (some .int) s m args meth c) (hA : ∀ q : Nat, s.heap.size ≤ q → A q) (hK : CK G s) (C : St) (x1 : Int32) (x2 : Int32) (t1 : Int32) (h : pX7_decides_23 C x1 x2 t1 = some out) {H : Heap} {locs : List Loc} (hP : va_P G.1 vwCl (MW G q C) H) (hD : va_D A (MW G q C)) (hS : va_S A s.heap H locs) (ls : Array Slot) (hl : lv_has ls 3 [(0, .ref (q 0)), (1, .int x1), (2, .int x2)]) : W p l e rmX7_decides s m args below meth c H locs 0 0 (MQi G (MW G q) A s args below out) (F0 m 23 ls [.int t1, .ref (q 0)]) := by
  obtain ⟨hx, hb, hr, hts, hown, hml, hlocks⟩ := id bx
  unfold pX7_decides_23 at h
  refine lv_iconst (v := 2) hx hb dX7_decides_23 (by decide) ?_
  obtain ⟨u_3, hu_3, h⟩ := bd_ex h
  refine wr_i (Wd := MW G q) (va_runV (As := [.int t1, .int 2]) (rest := []) ⟨hx, hb, hml, hown, hts⟩ (kX7_isThrown l G q C _ t1 2 u_3 hu_3) (cwV 2 hts gX7_decides_X7_isThrown rfl rfl rfl (by decide +kernel) ⟨Nat.le_of_ble_eq_true rfl, Nat.le_of_ble_eq_true rfl⟩) (wrV hP hD hK 8 0 rfl rfl) rfl rfl hl.1 rfl (lv_room (Nat.le_of_ble_eq_true rfl)) dX7_decides_24 ⟨Nat.zero_le _, Nat.zero_le _⟩) hD hS hA (fun _ => rfl) (fun H locs hP hD hS => ?_)
  refine lv_if_ne (tgt := 43) hx hb dX7_decides_27 (by decide) (fun c_27 => ?_) (fun c_27 => ?_)
  · have h := br_F h c_27
    refine lv_iconst (v := 0) hx hb dX7_decides_43 (by decide) ?_
    exact MQi.end hx hb hr hlocks hP hS dX7_decides_44 rfl h
  · have h := br_T h c_27
    refine lv_aload_n hx hb dX7_decides_30 rfl (lv_at hl 0 rfl) ?_
    refine lv_aload_n hx hb dX7_decides_31 rfl (lv_at hl 0 rfl) ?_
    refine lv_iload_n hx hb dX7_decides_32 rfl (lv_at hl 1 rfl) ?_
    obtain ⟨r_4, hr_4, h⟩ := bd_ex h
    refine ro_i (va_runV (As := [.int x1]) (rest := [.ref (q 0)]) ⟨hx, hb, hml, hown, hts⟩ (kX7_isDecided l G q u_3.2 x1 r_4 hr_4) (cwV 1 hts gX7_decides_X7_isDecided rfl rfl rfl (by decide +kernel) ⟨Nat.le_of_ble_eq_true rfl, Nat.le_of_ble_eq_true rfl⟩) (roV hP hK 8 0 rfl rfl) rfl rfl hl.1 rfl (lv_room (Nat.le_of_ble_eq_true rfl)) dX7_decides_33 ⟨Nat.zero_le _, Nat.zero_le _⟩) ?_
    refine lv_iconst (v := 3) hx hb dX7_decides_36 (by decide) ?_
    obtain ⟨u_5, hu_5, h⟩ := bd_ex h
    refine wr_i (Wd := MW G q) (va_runV (As := [.int r_4, .int 3]) (rest := []) ⟨hx, hb, hml, hown, hts⟩ (kX7_isThrown l G q u_3.2 _ r_4 3 u_5 hu_5) (cwV 2 hts gX7_decides_X7_isThrown rfl rfl rfl (by decide +kernel) ⟨Nat.le_of_ble_eq_true rfl, Nat.le_of_ble_eq_true rfl⟩) (wrV hP hD hK 8 0 rfl rfl) rfl rfl hl.1 rfl (lv_room (Nat.le_of_ble_eq_true rfl)) dX7_decides_37 ⟨Nat.zero_le _, Nat.zero_le _⟩) hD hS hA (fun _ => rfl) (fun H locs hP hD hS => ?_)
    refine lv_if_eq (tgt := 45) hx hb dX7_decides_40 (by decide) (fun c_40 => ?_) (fun c_40 => ?_)
    · have h := br_T h c_40
      refine lv_aload_n hx hb dX7_decides_45 rfl (lv_at hl 0 rfl) ?_
      refine lv_dup hx hb dX7_decides_46 rfl ?_
      refine va_get (D := G.1) (ci := 8) (v := .int (u_5.2.1 3)) (C := RX7) (T := TX7) (N := 24) hx hb hts in_wsX7_decides_X7 hown hK.1 hP 0 rfl rfl 19 (by decide) (w_mem hts 1 rfl) (fun _ h9 => h9) rfl dX7_decides_47 ?_
      refine lv_iload_n hx hb dX7_decides_50 rfl (lv_at hl 2 rfl) ?_
      refine lv_if_eq (tgt := 60) hx hb dX7_decides_51 (by decide) (fun c_51 => ?_) (fun c_51 => ?_)
      · have h := br_T h c_51
        refine lv_iconst (v := 0) hx hb dX7_decides_60 (by decide) ?_
        exact wX7_decides_61 bx hA hK u_5.2 x1 x2 (u_5.2.1 3) 0 h hP hD hS _ (lv_sub hl [0, 1, 2] rfl)
      · have h := br_F h c_51
        refine lv_iconst (v := 1) hx hb dX7_decides_54 (by decide) ?_
        refine lv_iload_n hx hb dX7_decides_55 rfl (lv_at hl 1 rfl) ?_
        refine lv_ishl hx hb dX7_decides_56 ?_
        refine lv_goto (tgt := 61) hx hb dX7_decides_57 (by decide) ?_
        exact wX7_decides_61 bx hA hK u_5.2 x1 x2 (u_5.2.1 3) ((1 : Int32) <<< (x1 &&& 31)) h hP hD hS _ (lv_sub hl [0, 1, 2] rfl)
    · have h := br_F h c_40
      refine lv_iconst (v := 0) hx hb dX7_decides_43 (by decide) ?_
      exact MQi.end hx hb hr hlocks hP hS dX7_decides_44 rfl h

set_option maxHeartbeats 4000000 in
set_option maxRecDepth 100000 in
theorem kX7_decides (l : Launch) (G : GT) (q : Nat → Nat) (C : St) (sz : Nat) (x1 : Int32) (x2 : Int32) (r : Int32 × St) (h : pX7_decides C x1 x2 = some r) : Met l yX7_decides wsX7_decides rmX7_decides (va_Pc [.ref (q 0), .int x1, .int x2] (wrP G (MW G q C) sz)) (va_Qi (fun v u => (v, u) = r) (fun u t => va_P G.1 vwCl (MW G q u) t.heap) (va_A (MW G q C) sz)) 0 0 (va_A (MW G q C) sz) := by
  refine Met.ofW (cc := cX7_decides) (maxL := 3) (ret := (some .int)) (by decide) rfl ?_
  intro p e s m args below meth c s₁ B hml hv
  obtain ⟨rfl, hsz, hP, hK, hD0⟩ := hv
  have bx := bx_of B hml
  subst hsz
  have hD := hD0.self (sz := s.heap.size)
  generalize hAe : va_A (MW G q C) s.heap.size = A at hD ⊢
  have hA : ∀ q : Nat, s.heap.size ≤ q → A q := fun q h => by rw [← hAe]; exact Or.inr h
  have hS : va_S A s.heap s.heap [] := va_S.rf
  obtain ⟨hx, hb, hr, hts, hown, hml, hlocks⟩ := id bx
  have hl := lv_entry ([.ref (q 0), .int x1, .int x2]) (n := 3) (Nat.le_of_ble_eq_true rfl)
  rw [lg_entry_eq]
  generalize (lg_sl ([.ref (q 0), .int x1, .int x2]) ++ List.replicate (3 - (lg_sl ([.ref (q 0), .int x1, .int x2])).length) Slot.unset).toArray = ls at hl ⊢
  have hl : lv_has ls 3 [(0, .ref (q 0)), (1, .int x1), (2, .int x2)] := hl
  show W p l e rmX7_decides s m _ below meth c s.heap [] 0 0 (MQi G (MW G q) A s _ below r) (F0 m 0 ls [])
  unfold pX7_decides at h
  refine lv_aload_n hx hb dX7_decides_0 rfl (lv_at hl 0 rfl) ?_
  refine lv_aload_n hx hb dX7_decides_1 rfl (lv_at hl 0 rfl) ?_
  refine lv_iload_n hx hb dX7_decides_2 rfl (lv_at hl 1 rfl) ?_
  obtain ⟨r_1, hr_1, h⟩ := bd_ex h
  refine ro_i (va_runV (As := [.int x1]) (rest := [.ref (q 0)]) ⟨hx, hb, hml, hown, hts⟩ (kX7_isNone l G q C x1 r_1 hr_1) (cwV 1 hts gX7_decides_X7_isNone rfl rfl rfl (by decide +kernel) ⟨Nat.le_of_ble_eq_true rfl, Nat.le_of_ble_eq_true rfl⟩) (roV hP hK 8 0 rfl rfl) rfl rfl hl.1 rfl (lv_room (Nat.le_of_ble_eq_true rfl)) dX7_decides_3 ⟨Nat.zero_le _, Nat.zero_le _⟩) ?_
  refine lv_iconst (v := 1) hx hb dX7_decides_6 (by decide) ?_
  obtain ⟨u_2, hu_2, h⟩ := bd_ex h
  refine wr_i (Wd := MW G q) (va_runV (As := [.int r_1, .int 1]) (rest := []) ⟨hx, hb, hml, hown, hts⟩ (kX7_isThrown l G q C _ r_1 1 u_2 hu_2) (cwV 2 hts gX7_decides_X7_isThrown rfl rfl rfl (by decide +kernel) ⟨Nat.le_of_ble_eq_true rfl, Nat.le_of_ble_eq_true rfl⟩) (wrV hP hD hK 8 0 rfl rfl) rfl rfl hl.1 rfl (lv_room (Nat.le_of_ble_eq_true rfl)) dX7_decides_7 ⟨Nat.zero_le _, Nat.zero_le _⟩) hD hS hA (fun _ => rfl) (fun H locs hP hD hS => ?_)
  refine lv_if_ne (tgt := 43) hx hb dX7_decides_10 (by decide) (fun c_10 => ?_) (fun c_10 => ?_)
  · have h := br_F h c_10
    refine lv_iconst (v := 0) hx hb dX7_decides_43 (by decide) ?_
    exact MQi.end hx hb hr hlocks hP hS dX7_decides_44 rfl h
  · have h := br_T h c_10
    refine lv_aload_n hx hb dX7_decides_13 rfl (lv_at hl 0 rfl) ?_
    refine lv_iload_n hx hb dX7_decides_14 rfl (lv_at hl 1 rfl) ?_
    refine lv_if_ne (tgt := 22) hx hb dX7_decides_15 (by decide) (fun c_15 => ?_) (fun c_15 => ?_)
    · have h := br_F h c_15
      refine lv_iconst (v := 0) hx hb dX7_decides_22 (by decide) ?_
      exact wX7_decides_23 bx hA hK u_2.2 x1 x2 0 h hP hD hS _ (lv_sub hl [0, 1, 2] rfl)
    · have h := br_T h c_15
      refine lv_iconst (v := 1) hx hb dX7_decides_18 (by decide) ?_
      refine lv_goto (tgt := 23) hx hb dX7_decides_19 (by decide) ?_
      exact wX7_decides_23 bx hA hK u_2.2 x1 x2 1 h hP hD hS _ (lv_sub hl [0, 1, 2] rfl)

def rmX7_choose : Room := { frames := 6, cells := 0, slots := 0, locals := 132 }

set_option maxHeartbeats 4000000 in
set_option maxRecDepth 100000 in
theorem kX7_choose (l : Launch) (G : GT) (q : Nat → Nat) (C : St) (sz : Nat) (x1 : Int32) (r : Int32 × St) (h : pX7_choose C x1 = some r) : Met l yX7_choose wsX7_choose rmX7_choose (va_Pc [.ref (q 0), .int x1] (wrP G (MW G q C) sz)) (va_Qi (fun v u => (v, u) = r) (fun u t => va_P G.1 vwCl (MW G q u) t.heap) (va_A (MW G q C) sz)) 0 0 (va_A (MW G q C) sz) := by
  refine Met.ofW (cc := cX7_choose) (maxL := 2) (ret := (some .int)) (by decide) rfl ?_
  intro p e s m args below meth c s₁ B hml hv
  obtain ⟨rfl, hsz, hP, hK, hD0⟩ := hv
  have bx := bx_of B hml
  subst hsz
  have hD := hD0.self (sz := s.heap.size)
  generalize hAe : va_A (MW G q C) s.heap.size = A at hD ⊢
  have hA : ∀ q : Nat, s.heap.size ≤ q → A q := fun q h => by rw [← hAe]; exact Or.inr h
  have hS : va_S A s.heap s.heap [] := va_S.rf
  obtain ⟨hx, hb, hr, hts, hown, hml, hlocks⟩ := id bx
  have hl := lv_entry ([.ref (q 0), .int x1]) (n := 2) (Nat.le_of_ble_eq_true rfl)
  rw [lg_entry_eq]
  generalize (lg_sl ([.ref (q 0), .int x1]) ++ List.replicate (2 - (lg_sl ([.ref (q 0), .int x1])).length) Slot.unset).toArray = ls at hl ⊢
  have hl : lv_has ls 2 [(0, .ref (q 0)), (1, .int x1)] := hl
  show W p l e rmX7_choose s m _ below meth c s.heap [] 0 0 (MQi G (MW G q) A s _ below r) (F0 m 0 ls [])
  unfold pX7_choose at h
  refine lv_aload_n hx hb dX7_choose_0 rfl (lv_at hl 0 rfl) ?_
  refine lv_iload_n hx hb dX7_choose_1 rfl (lv_at hl 1 rfl) ?_
  refine lv_iconst (v := 1) hx hb dX7_choose_2 (by decide) ?_
  obtain ⟨u_1, hu_1, h⟩ := bd_ex h
  refine wr_i (Wd := MW G q) (va_runV (As := [.int x1, .int 1]) (rest := []) ⟨hx, hb, hml, hown, hts⟩ (kX7_decides l G q C _ x1 1 u_1 hu_1) (cwV 2 hts gX7_choose_X7_decides rfl rfl rfl (by decide +kernel) ⟨Nat.le_of_ble_eq_true rfl, Nat.le_of_ble_eq_true rfl⟩) (wrV hP hD hK 8 0 rfl rfl) rfl rfl hl.1 rfl (lv_room (Nat.le_of_ble_eq_true rfl)) dX7_choose_3 ⟨Nat.zero_le _, Nat.zero_le _⟩) hD hS hA (fun _ => rfl) (fun H locs hP hD hS => ?_)
  exact MQi.end hx hb hr hlocks hP hS dX7_choose_6 rfl h

def rmX7_refuse : Room := { frames := 6, cells := 0, slots := 0, locals := 132 }

set_option maxHeartbeats 4000000 in
set_option maxRecDepth 100000 in
theorem kX7_refuse (l : Launch) (G : GT) (q : Nat → Nat) (C : St) (sz : Nat) (x1 : Int32) (r : Int32 × St) (h : pX7_refuse C x1 = some r) : Met l yX7_refuse wsX7_refuse rmX7_refuse (va_Pc [.ref (q 0), .int x1] (wrP G (MW G q C) sz)) (va_Qi (fun v u => (v, u) = r) (fun u t => va_P G.1 vwCl (MW G q u) t.heap) (va_A (MW G q C) sz)) 0 0 (va_A (MW G q C) sz) := by
  refine Met.ofW (cc := cX7_refuse) (maxL := 2) (ret := (some .int)) (by decide) rfl ?_
  intro p e s m args below meth c s₁ B hml hv
  obtain ⟨rfl, hsz, hP, hK, hD0⟩ := hv
  have bx := bx_of B hml
  subst hsz
  have hD := hD0.self (sz := s.heap.size)
  generalize hAe : va_A (MW G q C) s.heap.size = A at hD ⊢
  have hA : ∀ q : Nat, s.heap.size ≤ q → A q := fun q h => by rw [← hAe]; exact Or.inr h
  have hS : va_S A s.heap s.heap [] := va_S.rf
  obtain ⟨hx, hb, hr, hts, hown, hml, hlocks⟩ := id bx
  have hl := lv_entry ([.ref (q 0), .int x1]) (n := 2) (Nat.le_of_ble_eq_true rfl)
  rw [lg_entry_eq]
  generalize (lg_sl ([.ref (q 0), .int x1]) ++ List.replicate (2 - (lg_sl ([.ref (q 0), .int x1])).length) Slot.unset).toArray = ls at hl ⊢
  have hl : lv_has ls 2 [(0, .ref (q 0)), (1, .int x1)] := hl
  show W p l e rmX7_refuse s m _ below meth c s.heap [] 0 0 (MQi G (MW G q) A s _ below r) (F0 m 0 ls [])
  unfold pX7_refuse at h
  refine lv_aload_n hx hb dX7_refuse_0 rfl (lv_at hl 0 rfl) ?_
  refine lv_iload_n hx hb dX7_refuse_1 rfl (lv_at hl 1 rfl) ?_
  refine lv_iconst (v := 0) hx hb dX7_refuse_2 (by decide) ?_
  obtain ⟨u_1, hu_1, h⟩ := bd_ex h
  refine wr_i (Wd := MW G q) (va_runV (As := [.int x1, .int 0]) (rest := []) ⟨hx, hb, hml, hown, hts⟩ (kX7_decides l G q C _ x1 0 u_1 hu_1) (cwV 2 hts gX7_refuse_X7_decides rfl rfl rfl (by decide +kernel) ⟨Nat.le_of_ble_eq_true rfl, Nat.le_of_ble_eq_true rfl⟩) (wrV hP hD hK 8 0 rfl rfl) rfl rfl hl.1 rfl (lv_room (Nat.le_of_ble_eq_true rfl)) dX7_refuse_3 ⟨Nat.zero_le _, Nat.zero_le _⟩) hD hS hA (fun _ => rfl) (fun H locs hP hD hS => ?_)
  exact MQi.end hx hb hr hlocks hP hS dX7_refuse_6 rfl h

def rmX7_retract : Room := { frames := 2, cells := 0, slots := 0, locals := 43 }

theorem in_wsX7_retract_X7 : ∀ w ∈ u_ws RX7 TX7 24, w ∈ wsX7_retract := by decide +kernel

set_option maxHeartbeats 4000000 in
set_option maxRecDepth 100000 in
theorem wX7_retract_55 {p : Program} {l : Launch} {e : Env} {s : State} {m : MethodId} {args : Array Value} {below : List Frame} {meth : Method} {c : Code} {G : GT} {q : Nat → Nat} {A : Nat → Prop} {out : Int32 × St} (bx : BX p RX7 wsX7_retract cX7_retract 3 (some .char) s m args meth c) (hA : ∀ q : Nat, s.heap.size ≤ q → A q) (hK : CK G s) (C : St) (x1 : Int32) (t0 : Int32) (h : pX7_retract_55 C x1 t0 = some out) {H : Heap} {locs : List Loc} (hP : va_P G.1 vwCl (MW G q C) H) (hD : va_D A (MW G q C)) (hS : va_S A s.heap H locs) (ls : Array Slot) (hl : lv_has ls 3 [(0, .ref (q 0)), (1, .int x1)]) : W p l e rmX7_retract s m args below meth c H locs 0 0 (MQi G (MW G q) A s args below out) (F0 m 55 ls [.int t0]) := by
  obtain ⟨hx, hb, hr, hts, hown, hml, hlocks⟩ := id bx
  unfold pX7_retract_55 at h
  refine lv_istore_n (lv' := [(2, .int t0), (0, .ref (q 0)), (1, .int x1)]) hx hb dX7_retract_55 rfl hl (by decide) rfl (fun ls hl => ?_)
  refine lv_aload_n hx hb dX7_retract_56 rfl (lv_at hl 1 rfl) ?_
  refine lv_dup hx hb dX7_retract_57 rfl ?_
  refine va_get (D := G.1) (ci := 8) (v := .int (C.1 3)) (C := RX7) (T := TX7) (N := 24) hx hb hts in_wsX7_retract_X7 hown hK.1 hP 0 rfl rfl 19 (by decide) (w_mem hts 1 rfl) (fun _ h9 => h9) rfl dX7_retract_58 ?_
  refine lv_iconst (v := 1) hx hb dX7_retract_61 (by decide) ?_
  refine lv_iload_n hx hb dX7_retract_62 rfl (lv_at hl 2 rfl) ?_
  refine lv_ishl hx hb dX7_retract_63 ?_
  refine lv_iconst (v := (-1)) hx hb dX7_retract_64 (by decide) ?_
  refine lv_ixor hx hb dX7_retract_65 ?_
  refine lv_iand hx hb dX7_retract_66 ?_
  refine va_put (D := G.1) (ci := 8) (v := .int ((C.1 3) &&& (((1 : Int32) <<< (x1 &&& 31)) ^^^ (-1)))) (ty := .int) (C := RX7) (T := TX7) (N := 24) hx hb hts in_wsX7_retract_X7 tyX7 tyX7_ok nmX7 hown hK.1 hP hD hS 0 rfl rfl 19 (by decide) (w_mem hts 1 rfl) (fun _ h9 => h9) rfl (by decide +kernel) rfl rfl (Nat.le_of_ble_eq_true rfl) dX7_retract_67 (fun H locs hP hD hS => ?_)
  have hP : va_P G.1 vwCl (MW G q (sS C 3 ((C.1 3) &&& (((1 : Int32) <<< (x1 &&& 31)) ^^^ (-1))))) H := hP
  have hD : va_D A (MW G q (sS C 3 ((C.1 3) &&& (((1 : Int32) <<< (x1 &&& 31)) ^^^ (-1))))) := hD
  obtain ⟨C_6, eC_6, h⟩ := ltv_ex h
  rw [← eC_6] at hP hD
  refine lv_aload_n hx hb dX7_retract_70 rfl (lv_at hl 1 rfl) ?_
  refine lv_dup hx hb dX7_retract_71 rfl ?_
  refine va_get (D := G.1) (ci := 8) (v := .int (C_6.1 4)) (C := RX7) (T := TX7) (N := 24) hx hb hts in_wsX7_retract_X7 hown hK.1 hP 0 rfl rfl 20 (by decide) (w_mem hts 2 rfl) (fun _ h9 => h9) rfl dX7_retract_72 ?_
  refine lv_iconst (v := 1) hx hb dX7_retract_75 (by decide) ?_
  refine lv_iload_n hx hb dX7_retract_76 rfl (lv_at hl 2 rfl) ?_
  refine lv_ishl hx hb dX7_retract_77 ?_
  refine lv_iconst (v := (-1)) hx hb dX7_retract_78 (by decide) ?_
  refine lv_ixor hx hb dX7_retract_79 ?_
  refine lv_iand hx hb dX7_retract_80 ?_
  refine va_put (D := G.1) (ci := 8) (v := .int ((C_6.1 4) &&& (((1 : Int32) <<< (x1 &&& 31)) ^^^ (-1)))) (ty := .int) (C := RX7) (T := TX7) (N := 24) hx hb hts in_wsX7_retract_X7 tyX7 tyX7_ok nmX7 hown hK.1 hP hD hS 0 rfl rfl 20 (by decide) (w_mem hts 2 rfl) (fun _ h9 => h9) rfl (by decide +kernel) rfl rfl (Nat.le_of_ble_eq_true rfl) dX7_retract_81 (fun H locs hP hD hS => ?_)
  have hP : va_P G.1 vwCl (MW G q (sS C_6 4 ((C_6.1 4) &&& (((1 : Int32) <<< (x1 &&& 31)) ^^^ (-1))))) H := hP
  have hD : va_D A (MW G q (sS C_6 4 ((C_6.1 4) &&& (((1 : Int32) <<< (x1 &&& 31)) ^^^ (-1))))) := hD
  obtain ⟨C_7, eC_7, h⟩ := ltv_ex h
  rw [← eC_7] at hP hD
  refine lv_iload_n hx hb dX7_retract_84 rfl (lv_at hl 0 rfl) ?_
  obtain ⟨g85, h⟩ := gd_ex h
  exact MQi.end hx hb hr hlocks hP hS dX7_retract_85 (okC_n g85) h

set_option maxHeartbeats 4000000 in
set_option maxRecDepth 100000 in
theorem wX7_retract_27 {p : Program} {l : Launch} {e : Env} {s : State} {m : MethodId} {args : Array Value} {below : List Frame} {meth : Method} {c : Code} {G : GT} {q : Nat → Nat} {A : Nat → Prop} {out : Int32 × St} (bx : BX p RX7 wsX7_retract cX7_retract 3 (some .char) s m args meth c) (hA : ∀ q : Nat, s.heap.size ≤ q → A q) (hK : CK G s) (C : St) (x1 : Int32) (t1 : Int32) (h : pX7_retract_27 C x1 t1 = some out) {H : Heap} {locs : List Loc} (hP : va_P G.1 vwCl (MW G q C) H) (hD : va_D A (MW G q C)) (hS : va_S A s.heap H locs) (ls : Array Slot) (hl : lv_has ls 3 [(0, .ref (q 0)), (1, .int x1)]) : W p l e rmX7_retract s m args below meth c H locs 0 0 (MQi G (MW G q) A s args below out) (F0 m 27 ls [.int t1, .ref (q 0)]) := by
  obtain ⟨hx, hb, hr, hts, hown, hml, hlocks⟩ := id bx
  unfold pX7_retract_27 at h
  refine lv_iconst (v := 2) hx hb dX7_retract_27 (by decide) ?_
  obtain ⟨u_4, hu_4, h⟩ := bd_ex h
  refine wr_i (Wd := MW G q) (va_runV (As := [.int t1, .int 2]) (rest := []) ⟨hx, hb, hml, hown, hts⟩ (kX7_isThrown l G q C _ t1 2 u_4 hu_4) (cwV 2 hts gX7_retract_X7_isThrown rfl rfl rfl (by decide +kernel) ⟨Nat.le_of_ble_eq_true rfl, Nat.le_of_ble_eq_true rfl⟩) (wrV hP hD hK 8 0 rfl rfl) rfl rfl hl.1 rfl (lv_room (Nat.le_of_ble_eq_true rfl)) dX7_retract_28 ⟨Nat.zero_le _, Nat.zero_le _⟩) hD hS hA (fun _ => rfl) (fun H locs hP hD hS => ?_)
  refine lv_if_eq (tgt := 37) hx hb dX7_retract_31 (by decide) (fun c_31 => ?_) (fun c_31 => ?_)
  · have h := br_T h c_31
    refine lv_aload_n hx hb dX7_retract_37 rfl (lv_at hl 0 rfl) ?_
    refine va_get (D := G.1) (ci := 8) (v := .int (u_4.2.1 3)) (C := RX7) (T := TX7) (N := 24) hx hb hts in_wsX7_retract_X7 hown hK.1 hP 0 rfl rfl 19 (by decide) (w_mem hts 1 rfl) (fun _ h9 => h9) rfl dX7_retract_38 ?_
    refine lv_iload_n hx hb dX7_retract_41 rfl (lv_at hl 1 rfl) ?_
    obtain ⟨r_5, hr_5, h⟩ := bd_ex h
    refine ro_i (va_runS (As := [.int (u_4.2.1 3), .int x1]) (rest := []) ⟨hx, hb, hml, hown, hts⟩ (kX7_has l G q u_4.2 (u_4.2.1 3) x1 r_5 hr_5) (va_cwS 2 hts gX7_retract_X7_has rfl rfl rfl (by decide +kernel) ⟨Nat.le_of_ble_eq_true rfl, Nat.le_of_ble_eq_true rfl⟩) (roS hP hK) rfl rfl hl.1 rfl (lv_room (Nat.le_of_ble_eq_true rfl)) dX7_retract_42 ⟨Nat.zero_le _, Nat.zero_le _⟩) ?_
    refine lv_if_eq (tgt := 53) hx hb dX7_retract_45 (by decide) (fun c_45 => ?_) (fun c_45 => ?_)
    · have h := br_T h c_45
      refine lv_bipush (v := 114) hx hb dX7_retract_53 (by decide) ?_
      exact wX7_retract_55 bx hA hK u_4.2 x1 114 h hP hD hS _ (lv_sub hl [0, 1] rfl)
    · have h := br_F h c_45
      refine lv_bipush (v := 99) hx hb dX7_retract_48 (by decide) ?_
      refine lv_goto (tgt := 55) hx hb dX7_retract_50 (by decide) ?_
      exact wX7_retract_55 bx hA hK u_4.2 x1 99 h hP hD hS _ (lv_sub hl [0, 1] rfl)
  · have h := br_F h c_31
    refine lv_bipush (v := 45) hx hb dX7_retract_34 (by decide) ?_
    exact MQi.end hx hb hr hlocks hP hS dX7_retract_36 rfl h

set_option maxHeartbeats 4000000 in
set_option maxRecDepth 100000 in
theorem kX7_retract (l : Launch) (G : GT) (q : Nat → Nat) (C : St) (sz : Nat) (x1 : Int32) (r : Int32 × St) (h : pX7_retract C x1 = some r) : Met l yX7_retract wsX7_retract rmX7_retract (va_Pc [.ref (q 0), .int x1] (wrP G (MW G q C) sz)) (va_Qi (fun v u => (v, u) = r) (fun u t => va_P G.1 vwCl (MW G q u) t.heap) (va_A (MW G q C) sz)) 0 0 (va_A (MW G q C) sz) := by
  refine Met.ofW (cc := cX7_retract) (maxL := 3) (ret := (some .char)) (by decide) rfl ?_
  intro p e s m args below meth c s₁ B hml hv
  obtain ⟨rfl, hsz, hP, hK, hD0⟩ := hv
  have bx := bx_of B hml
  subst hsz
  have hD := hD0.self (sz := s.heap.size)
  generalize hAe : va_A (MW G q C) s.heap.size = A at hD ⊢
  have hA : ∀ q : Nat, s.heap.size ≤ q → A q := fun q h => by rw [← hAe]; exact Or.inr h
  have hS : va_S A s.heap s.heap [] := va_S.rf
  obtain ⟨hx, hb, hr, hts, hown, hml, hlocks⟩ := id bx
  have hl := lv_entry ([.ref (q 0), .int x1]) (n := 3) (Nat.le_of_ble_eq_true rfl)
  rw [lg_entry_eq]
  generalize (lg_sl ([.ref (q 0), .int x1]) ++ List.replicate (3 - (lg_sl ([.ref (q 0), .int x1])).length) Slot.unset).toArray = ls at hl ⊢
  have hl : lv_has ls 3 [(0, .ref (q 0)), (1, .int x1)] := hl
  show W p l e rmX7_retract s m _ below meth c s.heap [] 0 0 (MQi G (MW G q) A s _ below r) (F0 m 0 ls [])
  unfold pX7_retract at h
  refine lv_aload_n hx hb dX7_retract_0 rfl (lv_at hl 0 rfl) ?_
  refine lv_aload_n hx hb dX7_retract_1 rfl (lv_at hl 0 rfl) ?_
  refine lv_iload_n hx hb dX7_retract_2 rfl (lv_at hl 1 rfl) ?_
  obtain ⟨r_1, hr_1, h⟩ := bd_ex h
  refine ro_i (va_runV (As := [.int x1]) (rest := [.ref (q 0)]) ⟨hx, hb, hml, hown, hts⟩ (kX7_isNone l G q C x1 r_1 hr_1) (cwV 1 hts gX7_retract_X7_isNone rfl rfl rfl (by decide +kernel) ⟨Nat.le_of_ble_eq_true rfl, Nat.le_of_ble_eq_true rfl⟩) (roV hP hK 8 0 rfl rfl) rfl rfl hl.1 rfl (lv_room (Nat.le_of_ble_eq_true rfl)) dX7_retract_3 ⟨Nat.zero_le _, Nat.zero_le _⟩) ?_
  refine lv_iconst (v := 1) hx hb dX7_retract_6 (by decide) ?_
  obtain ⟨u_2, hu_2, h⟩ := bd_ex h
  refine wr_i (Wd := MW G q) (va_runV (As := [.int r_1, .int 1]) (rest := []) ⟨hx, hb, hml, hown, hts⟩ (kX7_isThrown l G q C _ r_1 1 u_2 hu_2) (cwV 2 hts gX7_retract_X7_isThrown rfl rfl rfl (by decide +kernel) ⟨Nat.le_of_ble_eq_true rfl, Nat.le_of_ble_eq_true rfl⟩) (wrV hP hD hK 8 0 rfl rfl) rfl rfl hl.1 rfl (lv_room (Nat.le_of_ble_eq_true rfl)) dX7_retract_7 ⟨Nat.zero_le _, Nat.zero_le _⟩) hD hS hA (fun _ => rfl) (fun H locs hP hD hS => ?_)
  refine lv_if_ne (tgt := 34) hx hb dX7_retract_10 (by decide) (fun c_10 => ?_) (fun c_10 => ?_)
  · have h := br_F h c_10
    refine lv_bipush (v := 45) hx hb dX7_retract_34 (by decide) ?_
    exact MQi.end hx hb hr hlocks hP hS dX7_retract_36 rfl h
  · have h := br_T h c_10
    refine lv_aload_n hx hb dX7_retract_13 rfl (lv_at hl 0 rfl) ?_
    refine lv_aload_n hx hb dX7_retract_14 rfl (lv_at hl 0 rfl) ?_
    refine lv_iload_n hx hb dX7_retract_15 rfl (lv_at hl 1 rfl) ?_
    obtain ⟨r_3, hr_3, h⟩ := bd_ex h
    refine ro_i (va_runV (As := [.int x1]) (rest := [.ref (q 0)]) ⟨hx, hb, hml, hown, hts⟩ (kX7_isDecided l G q u_2.2 x1 r_3 hr_3) (cwV 1 hts gX7_retract_X7_isDecided rfl rfl rfl (by decide +kernel) ⟨Nat.le_of_ble_eq_true rfl, Nat.le_of_ble_eq_true rfl⟩) (roV hP hK 8 0 rfl rfl) rfl rfl hl.1 rfl (lv_room (Nat.le_of_ble_eq_true rfl)) dX7_retract_16 ⟨Nat.zero_le _, Nat.zero_le _⟩) ?_
    refine lv_if_ne (tgt := 26) hx hb dX7_retract_19 (by decide) (fun c_19 => ?_) (fun c_19 => ?_)
    · have h := br_F h c_19
      refine lv_iconst (v := 0) hx hb dX7_retract_26 (by decide) ?_
      exact wX7_retract_27 bx hA hK u_2.2 x1 0 h hP hD hS _ (lv_sub hl [0, 1] rfl)
    · have h := br_T h c_19
      refine lv_iconst (v := 1) hx hb dX7_retract_22 (by decide) ?_
      refine lv_goto (tgt := 27) hx hb dX7_retract_23 (by decide) ?_
      exact wX7_retract_27 bx hA hK u_2.2 x1 1 h hP hD hS _ (lv_sub hl [0, 1] rfl)

def rmX7_retractAll : Room := { frames := 1, cells := 0, slots := 0, locals := 20 }

theorem in_wsX7_retractAll_X7 : ∀ w ∈ u_ws RX7 TX7 24, w ∈ wsX7_retractAll := by decide +kernel

set_option maxHeartbeats 4000000 in
set_option maxRecDepth 100000 in
theorem kX7_retractAll (l : Launch) (G : GT) (q : Nat → Nat) (C : St) (sz : Nat) (r : Int32 × St) (h : pX7_retractAll C = some r) : Met l yX7_retractAll wsX7_retractAll rmX7_retractAll (va_Pc [.ref (q 0)] (wrP G (MW G q C) sz)) (va_Qi (fun v u => (v, u) = r) (fun u t => va_P G.1 vwCl (MW G q u) t.heap) (va_A (MW G q C) sz)) 0 0 (va_A (MW G q C) sz) := by
  refine Met.ofW (cc := cX7_retractAll) (maxL := 2) (ret := (some .int)) (by decide) rfl ?_
  intro p e s m args below meth c s₁ B hml hv
  obtain ⟨rfl, hsz, hP, hK, hD0⟩ := hv
  have bx := bx_of B hml
  subst hsz
  have hD := hD0.self (sz := s.heap.size)
  generalize hAe : va_A (MW G q C) s.heap.size = A at hD ⊢
  have hA : ∀ q : Nat, s.heap.size ≤ q → A q := fun q h => by rw [← hAe]; exact Or.inr h
  have hS : va_S A s.heap s.heap [] := va_S.rf
  obtain ⟨hx, hb, hr, hts, hown, hml, hlocks⟩ := id bx
  have hl := lv_entry ([.ref (q 0)]) (n := 2) (Nat.le_of_ble_eq_true rfl)
  rw [lg_entry_eq]
  generalize (lg_sl ([.ref (q 0)]) ++ List.replicate (2 - (lg_sl ([.ref (q 0)])).length) Slot.unset).toArray = ls at hl ⊢
  have hl : lv_has ls 2 [(0, .ref (q 0))] := hl
  show W p l e rmX7_retractAll s m _ below meth c s.heap [] 0 0 (MQi G (MW G q) A s _ below r) (F0 m 0 ls [])
  unfold pX7_retractAll at h
  refine lv_aload_n hx hb dX7_retractAll_0 rfl (lv_at hl 0 rfl) ?_
  refine lv_iconst (v := 0) hx hb dX7_retractAll_1 (by decide) ?_
  refine va_put (D := G.1) (ci := 8) (v := .int 0) (ty := .int) (C := RX7) (T := TX7) (N := 24) hx hb hts in_wsX7_retractAll_X7 tyX7 tyX7_ok nmX7 hown hK.1 hP hD hS 0 rfl rfl 23 (by decide) (w_mem hts 1 rfl) (fun _ h9 => h9) rfl (by decide +kernel) rfl rfl (Nat.le_of_ble_eq_true rfl) dX7_retractAll_2 (fun H locs hP hD hS => ?_)
  have hP : va_P G.1 vwCl (MW G q (sS C 7 0)) H := hP
  have hD : va_D A (MW G q (sS C 7 0)) := hD
  obtain ⟨C_1, eC_1, h⟩ := ltv_ex h
  rw [← eC_1] at hP hD
  refine lv_aload_n hx hb dX7_retractAll_5 rfl (lv_at hl 0 rfl) ?_
  refine va_get (D := G.1) (ci := 8) (v := .int (C_1.1 3)) (C := RX7) (T := TX7) (N := 24) hx hb hts in_wsX7_retractAll_X7 hown hK.1 hP 0 rfl rfl 19 (by decide) (w_mem hts 2 rfl) (fun _ h9 => h9) rfl dX7_retractAll_6 ?_
  refine lv_aload_n hx hb dX7_retractAll_9 rfl (lv_at hl 0 rfl) ?_
  refine va_get (D := G.1) (ci := 8) (v := .int (C_1.1 4)) (C := RX7) (T := TX7) (N := 24) hx hb hts in_wsX7_retractAll_X7 hown hK.1 hP 0 rfl rfl 20 (by decide) (w_mem hts 3 rfl) (fun _ h9 => h9) rfl dX7_retractAll_10 ?_
  refine lv_ior hx hb dX7_retractAll_13 ?_
  obtain ⟨r_2, hr_2, h⟩ := bd_ex h
  refine ro_i (va_runS (As := [.int ((C_1.1 3) ||| (C_1.1 4))]) (rest := []) ⟨hx, hb, hml, hown, hts⟩ (kJ6_bitCount_0f7a4 l ((C_1.1 3) ||| (C_1.1 4)) r_2 hr_2) (va_cwS 1 hts gX7_retractAll_J6_bitCount_0f7a4 rfl rfl rfl (by decide +kernel) ⟨Nat.le_of_ble_eq_true rfl, Nat.le_of_ble_eq_true rfl⟩) noS rfl rfl hl.1 rfl (lv_room (Nat.le_of_ble_eq_true rfl)) dX7_retractAll_14 ⟨Nat.zero_le _, Nat.zero_le _⟩) ?_
  refine lv_istore_n (lv' := [(1, .int r_2), (0, .ref (q 0))]) hx hb dX7_retractAll_17 rfl hl (by decide) rfl (fun ls hl => ?_)
  refine lv_aload_n hx hb dX7_retractAll_18 rfl (lv_at hl 1 rfl) ?_
  refine lv_iconst (v := 0) hx hb dX7_retractAll_19 (by decide) ?_
  refine va_put (D := G.1) (ci := 8) (v := .int 0) (ty := .int) (C := RX7) (T := TX7) (N := 24) hx hb hts in_wsX7_retractAll_X7 tyX7 tyX7_ok nmX7 hown hK.1 hP hD hS 0 rfl rfl 19 (by decide) (w_mem hts 2 rfl) (fun _ h9 => h9) rfl (by decide +kernel) rfl rfl (Nat.le_of_ble_eq_true rfl) dX7_retractAll_20 (fun H locs hP hD hS => ?_)
  have hP : va_P G.1 vwCl (MW G q (sS C_1 3 0)) H := hP
  have hD : va_D A (MW G q (sS C_1 3 0)) := hD
  obtain ⟨C_3, eC_3, h⟩ := ltv_ex h
  rw [← eC_3] at hP hD
  refine lv_aload_n hx hb dX7_retractAll_23 rfl (lv_at hl 1 rfl) ?_
  refine lv_iconst (v := 0) hx hb dX7_retractAll_24 (by decide) ?_
  refine va_put (D := G.1) (ci := 8) (v := .int 0) (ty := .int) (C := RX7) (T := TX7) (N := 24) hx hb hts in_wsX7_retractAll_X7 tyX7 tyX7_ok nmX7 hown hK.1 hP hD hS 0 rfl rfl 20 (by decide) (w_mem hts 3 rfl) (fun _ h9 => h9) rfl (by decide +kernel) rfl rfl (Nat.le_of_ble_eq_true rfl) dX7_retractAll_25 (fun H locs hP hD hS => ?_)
  have hP : va_P G.1 vwCl (MW G q (sS C_3 4 0)) H := hP
  have hD : va_D A (MW G q (sS C_3 4 0)) := hD
  obtain ⟨C_4, eC_4, h⟩ := ltv_ex h
  rw [← eC_4] at hP hD
  refine lv_iload_n hx hb dX7_retractAll_28 rfl (lv_at hl 0 rfl) ?_
  exact MQi.end hx hb hr hlocks hP hS dX7_retractAll_29 rfl h

def rmX7_stateOf : Room := { frames := 4, cells := 0, slots := 0, locals := 89 }

theorem in_wsX7_stateOf_X7 : ∀ w ∈ u_ws RX7 TX7 24, w ∈ wsX7_stateOf := by decide +kernel

set_option maxHeartbeats 4000000 in
set_option maxRecDepth 100000 in
theorem wX7_stateOf_84 {p : Program} {l : Launch} {e : Env} {s : State} {m : MethodId} {args : Array Value} {below : List Frame} {meth : Method} {c : Code} {G : GT} {q : Nat → Nat} {A : Nat → Prop} {out : Int32 × St} (bx : BX p RX7 wsX7_stateOf cX7_stateOf 6 (some .char) s m args meth c) (hA : ∀ q : Nat, s.heap.size ≤ q → A q) (hK : CK G s) {k23 : St → Int32 → Int32 → Int32 → Int32 → Option (Int32 × St)} (hk23 : ∀ (C : St) (x1 : Int32) (x2 : Int32) (x3 : Int32) (x4 : Int32), k23 C x1 x2 x3 x4 = some out → ∀ (H : Heap) (locs : List Loc) (hP : va_P G.1 vwCl (MW G q C) H) (hD : va_D A (MW G q C)) (hS : va_S A s.heap H locs), ∀ (ls : Array Slot), lv_has ls 6 [(0, .ref (q 0)), (1, .int x1), (2, .int x2), (3, .int x3), (4, .int x4)] → W p l e rmX7_stateOf s m args below meth c H locs 0 0 (MQi G (MW G q) A s args below out) (F0 m 23 ls [])) (C : St) (x1 : Int32) (x2 : Int32) (x4 : Int32) (t0 : Int32) (t1 : Int32) (h : pX7_stateOf_84 k23 C x1 x2 x4 t0 t1 = some out) {H : Heap} {locs : List Loc} (hP : va_P G.1 vwCl (MW G q C) H) (hD : va_D A (MW G q C)) (hS : va_S A s.heap H locs) (ls : Array Slot) (hl : lv_has ls 6 [(0, .ref (q 0)), (1, .int x1), (2, .int x2), (4, .int x4)]) : W p l e rmX7_stateOf s m args below meth c H locs 0 0 (MQi G (MW G q) A s args below out) (F0 m 84 ls [.int t1, .int t0]) := by
  obtain ⟨hx, hb, hr, hts, hown, hml, hlocks⟩ := id bx
  unfold pX7_stateOf_84 at h
  refine lv_iadd hx hb dX7_stateOf_84 ?_
  refine lv_topi (fun v_7 ev_7 => ?_)
  have h := ltv_at h v_7 ev_7
  refine lv_istore_n (lv' := [(3, .int v_7), (0, .ref (q 0)), (1, .int x1), (2, .int x2), (4, .int x4)]) hx hb dX7_stateOf_85 rfl hl (by decide) rfl (fun ls hl => ?_)
  obtain ⟨v_8, ev_8, h⟩ := ltv_ex h
  refine lv_iinc (v := v_8) (lv' := [(4, .int v_8), (3, .int v_7), (0, .ref (q 0)), (1, .int x1), (2, .int x2)]) hx hb dX7_stateOf_86 hl (k := 4) rfl (by rw [ev_8]; rfl) (by decide) rfl (fun ls hl => ?_)
  refine lv_goto (tgt := 23) hx hb dX7_stateOf_89 (by decide) ?_
  exact hk23 C x1 x2 v_7 v_8 h _ _ hP hD hS _ (lv_sub hl [2, 3, 4, 1, 0] rfl)

set_option maxHeartbeats 4000000 in
set_option maxRecDepth 100000 in
theorem wX7_stateOf_83 {p : Program} {l : Launch} {e : Env} {s : State} {m : MethodId} {args : Array Value} {below : List Frame} {meth : Method} {c : Code} {G : GT} {q : Nat → Nat} {A : Nat → Prop} {out : Int32 × St} (bx : BX p RX7 wsX7_stateOf cX7_stateOf 6 (some .char) s m args meth c) (hA : ∀ q : Nat, s.heap.size ≤ q → A q) (hK : CK G s) {k23 : St → Int32 → Int32 → Int32 → Int32 → Option (Int32 × St)} (hk23 : ∀ (C : St) (x1 : Int32) (x2 : Int32) (x3 : Int32) (x4 : Int32), k23 C x1 x2 x3 x4 = some out → ∀ (H : Heap) (locs : List Loc) (hP : va_P G.1 vwCl (MW G q C) H) (hD : va_D A (MW G q C)) (hS : va_S A s.heap H locs), ∀ (ls : Array Slot), lv_has ls 6 [(0, .ref (q 0)), (1, .int x1), (2, .int x2), (3, .int x3), (4, .int x4)] → W p l e rmX7_stateOf s m args below meth c H locs 0 0 (MQi G (MW G q) A s args below out) (F0 m 23 ls [])) (C : St) (x1 : Int32) (x2 : Int32) (x4 : Int32) (t0 : Int32) (h : pX7_stateOf_83 k23 C x1 x2 x4 t0 = some out) {H : Heap} {locs : List Loc} (hP : va_P G.1 vwCl (MW G q C) H) (hD : va_D A (MW G q C)) (hS : va_S A s.heap H locs) (ls : Array Slot) (hl : lv_has ls 6 [(0, .ref (q 0)), (1, .int x1), (2, .int x2), (4, .int x4)]) : W p l e rmX7_stateOf s m args below meth c H locs 0 0 (MQi G (MW G q) A s args below out) (F0 m 83 ls [.int t0]) := by
  obtain ⟨hx, hb, hr, hts, hown, hml, hlocks⟩ := id bx
  unfold pX7_stateOf_83 at h
  refine lv_iconst (v := 0) hx hb dX7_stateOf_83 (by decide) ?_
  exact wX7_stateOf_84 bx hA hK hk23 C x1 x2 x4 t0 0 h hP hD hS _ (lv_sub hl [0, 1, 2, 3] rfl)

set_option maxHeartbeats 4000000 in
set_option maxRecDepth 100000 in
theorem wX7_stateOf_62 {p : Program} {l : Launch} {e : Env} {s : State} {m : MethodId} {args : Array Value} {below : List Frame} {meth : Method} {c : Code} {G : GT} {q : Nat → Nat} {A : Nat → Prop} {out : Int32 × St} (bx : BX p RX7 wsX7_stateOf cX7_stateOf 6 (some .char) s m args meth c) (hA : ∀ q : Nat, s.heap.size ≤ q → A q) (hK : CK G s) {k23 : St → Int32 → Int32 → Int32 → Int32 → Option (Int32 × St)} (hk23 : ∀ (C : St) (x1 : Int32) (x2 : Int32) (x3 : Int32) (x4 : Int32), k23 C x1 x2 x3 x4 = some out → ∀ (H : Heap) (locs : List Loc) (hP : va_P G.1 vwCl (MW G q C) H) (hD : va_D A (MW G q C)) (hS : va_S A s.heap H locs), ∀ (ls : Array Slot), lv_has ls 6 [(0, .ref (q 0)), (1, .int x1), (2, .int x2), (3, .int x3), (4, .int x4)] → W p l e rmX7_stateOf s m args below meth c H locs 0 0 (MQi G (MW G q) A s args below out) (F0 m 23 ls [])) (C : St) (x1 : Int32) (x3 : Int32) (x4 : Int32) (x5 : Int32) (t0 : Int32) (t1 : Int32) (h : pX7_stateOf_62 k23 C x1 x3 x4 x5 t0 t1 = some out) {H : Heap} {locs : List Loc} (hP : va_P G.1 vwCl (MW G q C) H) (hD : va_D A (MW G q C)) (hS : va_S A s.heap H locs) (ls : Array Slot) (hl : lv_has ls 6 [(0, .ref (q 0)), (1, .int x1), (3, .int x3), (4, .int x4), (5, .int x5)]) : W p l e rmX7_stateOf s m args below meth c H locs 0 0 (MQi G (MW G q) A s args below out) (F0 m 62 ls [.int t1, .int t0]) := by
  obtain ⟨hx, hb, hr, hts, hown, hml, hlocks⟩ := id bx
  unfold pX7_stateOf_62 at h
  refine lv_iadd hx hb dX7_stateOf_62 ?_
  refine lv_topi (fun v_6 ev_6 => ?_)
  have h := ltv_at h v_6 ev_6
  refine lv_istore_n (lv' := [(2, .int v_6), (0, .ref (q 0)), (1, .int x1), (3, .int x3), (4, .int x4), (5, .int x5)]) hx hb dX7_stateOf_63 rfl hl (by decide) rfl (fun ls hl => ?_)
  refine lv_iload_n hx hb dX7_stateOf_64 rfl (lv_at hl 3 rfl) ?_
  refine lv_iload hx hb dX7_stateOf_65 (lv_at hl 5 rfl) ?_
  refine lv_if_eq (tgt := 83) hx hb dX7_stateOf_67 (by decide) (fun c_67 => ?_) (fun c_67 => ?_)
  · have h := br_T h c_67
    exact wX7_stateOf_83 bx hA hK hk23 C x1 v_6 x4 x3 h hP hD hS _ (lv_sub hl [1, 2, 0, 4] rfl)
  · have h := br_F h c_67
    refine lv_iload hx hb dX7_stateOf_70 (lv_at hl 4 rfl) ?_
    refine lv_iload_n hx hb dX7_stateOf_72 rfl (lv_at hl 2 rfl) ?_
    obtain ⟨r_9, hr_9, h⟩ := bd_ex h
    refine ro_i (va_runS (As := [.int x4, .int x1]) (rest := [.int x3]) ⟨hx, hb, hml, hown, hts⟩ (kX7_has l G q C x4 x1 r_9 hr_9) (va_cwS 2 hts gX7_stateOf_X7_has rfl rfl rfl (by decide +kernel) ⟨Nat.le_of_ble_eq_true rfl, Nat.le_of_ble_eq_true rfl⟩) (roS hP hK) rfl rfl hl.1 rfl (lv_room (Nat.le_of_ble_eq_true rfl)) dX7_stateOf_73 ⟨Nat.zero_le _, Nat.zero_le _⟩) ?_
    refine lv_if_ne (tgt := 83) hx hb dX7_stateOf_76 (by decide) (fun c_76 => ?_) (fun c_76 => ?_)
    · have h := br_F h c_76
      exact wX7_stateOf_83 bx hA hK hk23 C x1 v_6 x4 x3 h hP hD hS _ (lv_sub hl [1, 2, 0, 4] rfl)
    · have h := br_T h c_76
      refine lv_iconst (v := 1) hx hb dX7_stateOf_79 (by decide) ?_
      refine lv_goto (tgt := 84) hx hb dX7_stateOf_80 (by decide) ?_
      exact wX7_stateOf_84 bx hA hK hk23 C x1 v_6 x4 x3 1 h hP hD hS _ (lv_sub hl [1, 2, 0, 4] rfl)

set_option maxHeartbeats 4000000 in
set_option maxRecDepth 100000 in
theorem wX7_stateOf_61 {p : Program} {l : Launch} {e : Env} {s : State} {m : MethodId} {args : Array Value} {below : List Frame} {meth : Method} {c : Code} {G : GT} {q : Nat → Nat} {A : Nat → Prop} {out : Int32 × St} (bx : BX p RX7 wsX7_stateOf cX7_stateOf 6 (some .char) s m args meth c) (hA : ∀ q : Nat, s.heap.size ≤ q → A q) (hK : CK G s) {k23 : St → Int32 → Int32 → Int32 → Int32 → Option (Int32 × St)} (hk23 : ∀ (C : St) (x1 : Int32) (x2 : Int32) (x3 : Int32) (x4 : Int32), k23 C x1 x2 x3 x4 = some out → ∀ (H : Heap) (locs : List Loc) (hP : va_P G.1 vwCl (MW G q C) H) (hD : va_D A (MW G q C)) (hS : va_S A s.heap H locs), ∀ (ls : Array Slot), lv_has ls 6 [(0, .ref (q 0)), (1, .int x1), (2, .int x2), (3, .int x3), (4, .int x4)] → W p l e rmX7_stateOf s m args below meth c H locs 0 0 (MQi G (MW G q) A s args below out) (F0 m 23 ls [])) (C : St) (x1 : Int32) (x3 : Int32) (x4 : Int32) (x5 : Int32) (t0 : Int32) (h : pX7_stateOf_61 k23 C x1 x3 x4 x5 t0 = some out) {H : Heap} {locs : List Loc} (hP : va_P G.1 vwCl (MW G q C) H) (hD : va_D A (MW G q C)) (hS : va_S A s.heap H locs) (ls : Array Slot) (hl : lv_has ls 6 [(0, .ref (q 0)), (1, .int x1), (3, .int x3), (4, .int x4), (5, .int x5)]) : W p l e rmX7_stateOf s m args below meth c H locs 0 0 (MQi G (MW G q) A s args below out) (F0 m 61 ls [.int t0]) := by
  obtain ⟨hx, hb, hr, hts, hown, hml, hlocks⟩ := id bx
  unfold pX7_stateOf_61 at h
  refine lv_iconst (v := 0) hx hb dX7_stateOf_61 (by decide) ?_
  exact wX7_stateOf_62 bx hA hK hk23 C x1 x3 x4 x5 t0 0 h hP hD hS _ (lv_sub hl [0, 1, 2, 3, 4] rfl)

set_option maxHeartbeats 4000000 in
set_option maxRecDepth 100000 in
theorem wX7_stateOf_23_b {p : Program} {l : Launch} {e : Env} {s : State} {m : MethodId} {args : Array Value} {below : List Frame} {meth : Method} {c : Code} {G : GT} {q : Nat → Nat} {A : Nat → Prop} {out : Int32 × St} (bx : BX p RX7 wsX7_stateOf cX7_stateOf 6 (some .char) s m args meth c) (hA : ∀ q : Nat, s.heap.size ≤ q → A q) (hK : CK G s) {k23 : St → Int32 → Int32 → Int32 → Int32 → Option (Int32 × St)} (hk23 : ∀ (C : St) (x1 : Int32) (x2 : Int32) (x3 : Int32) (x4 : Int32), k23 C x1 x2 x3 x4 = some out → ∀ (H : Heap) (locs : List Loc) (hP : va_P G.1 vwCl (MW G q C) H) (hD : va_D A (MW G q C)) (hS : va_S A s.heap H locs), ∀ (ls : Array Slot), lv_has ls 6 [(0, .ref (q 0)), (1, .int x1), (2, .int x2), (3, .int x3), (4, .int x4)] → W p l e rmX7_stateOf s m args below meth c H locs 0 0 (MQi G (MW G q) A s args below out) (F0 m 23 ls [])) (C : St) (x1 : Int32) (x2 : Int32) (x3 : Int32) (x4 : Int32) (h : pX7_stateOf_23_b k23 C x1 x2 x3 x4 = some out) {H : Heap} {locs : List Loc} (hP : va_P G.1 vwCl (MW G q C) H) (hD : va_D A (MW G q C)) (hS : va_S A s.heap H locs) (ls : Array Slot) (hl : lv_has ls 6 [(0, .ref (q 0)), (1, .int x1), (2, .int x2), (3, .int x3), (4, .int x4)]) : W p l e rmX7_stateOf s m args below meth c H locs 0 0 (MQi G (MW G q) A s args below out) (F0 m 23 ls []) := by
  obtain ⟨hx, hb, hr, hts, hown, hml, hlocks⟩ := id bx
  unfold pX7_stateOf_23_b at h
  refine lv_iload hx hb dX7_stateOf_23 (lv_at hl 4 rfl) ?_
  refine lv_iconst (v := 1) hx hb dX7_stateOf_25 (by decide) ?_
  refine lv_aload_n hx hb dX7_stateOf_26 rfl (lv_at hl 0 rfl) ?_
  refine va_get (D := G.1) (ci := 8) (v := .int (C.1 0)) (C := RX7) (T := TX7) (N := 24) hx hb hts in_wsX7_stateOf_X7 hown hK.1 hP 0 rfl rfl 16 (by decide) (w_mem hts 1 rfl) (fun _ h9 => h9) rfl dX7_stateOf_27 ?_
  refine lv_ishl hx hb dX7_stateOf_30 ?_
  refine lv_icmp_ge (tgt := 92) hx hb dX7_stateOf_31 (by decide) (fun c_31 => ?_) (fun c_31 => ?_)
  · have h := br_T h c_31
    refine lv_aload_n hx hb dX7_stateOf_92 rfl (lv_at hl 0 rfl) ?_
    refine va_get (D := G.1) (ci := 8) (v := .int (C.1 3)) (C := RX7) (T := TX7) (N := 24) hx hb hts in_wsX7_stateOf_X7 hown hK.1 hP 0 rfl rfl 19 (by decide) (w_mem hts 2 rfl) (fun _ h9 => h9) rfl dX7_stateOf_93 ?_
    refine lv_iload_n hx hb dX7_stateOf_96 rfl (lv_at hl 1 rfl) ?_
    obtain ⟨r_3, hr_3, h⟩ := bd_ex h
    refine ro_i (va_runS (As := [.int (C.1 3), .int x1]) (rest := []) ⟨hx, hb, hml, hown, hts⟩ (kX7_has l G q C (C.1 3) x1 r_3 hr_3) (va_cwS 2 hts gX7_stateOf_X7_has rfl rfl rfl (by decide +kernel) ⟨Nat.le_of_ble_eq_true rfl, Nat.le_of_ble_eq_true rfl⟩) (roS hP hK) rfl rfl hl.1 rfl (lv_room (Nat.le_of_ble_eq_true rfl)) dX7_stateOf_97 ⟨Nat.zero_le _, Nat.zero_le _⟩) ?_
    refine lv_if_eq (tgt := 108) hx hb dX7_stateOf_100 (by decide) (fun c_100 => ?_) (fun c_100 => ?_)
    · have h := br_T h c_100
      refine lv_aload_n hx hb dX7_stateOf_108 rfl (lv_at hl 0 rfl) ?_
      refine va_get (D := G.1) (ci := 8) (v := .int (C.1 4)) (C := RX7) (T := TX7) (N := 24) hx hb hts in_wsX7_stateOf_X7 hown hK.1 hP 0 rfl rfl 20 (by decide) (w_mem hts 3 rfl) (fun _ h9 => h9) rfl dX7_stateOf_109 ?_
      refine lv_iload_n hx hb dX7_stateOf_112 rfl (lv_at hl 1 rfl) ?_
      obtain ⟨r_4, hr_4, h⟩ := bd_ex h
      refine ro_i (va_runS (As := [.int (C.1 4), .int x1]) (rest := []) ⟨hx, hb, hml, hown, hts⟩ (kX7_has l G q C (C.1 4) x1 r_4 hr_4) (va_cwS 2 hts gX7_stateOf_X7_has rfl rfl rfl (by decide +kernel) ⟨Nat.le_of_ble_eq_true rfl, Nat.le_of_ble_eq_true rfl⟩) (roS hP hK) rfl rfl hl.1 rfl (lv_room (Nat.le_of_ble_eq_true rfl)) dX7_stateOf_113 ⟨Nat.zero_le _, Nat.zero_le _⟩) ?_
      refine lv_if_eq (tgt := 124) hx hb dX7_stateOf_116 (by decide) (fun c_116 => ?_) (fun c_116 => ?_)
      · have h := br_T h c_116
        refine lv_iload_n hx hb dX7_stateOf_124 rfl (lv_at hl 3 rfl) ?_
        refine lv_if_ne (tgt := 133) hx hb dX7_stateOf_125 (by decide) (fun c_125 => ?_) (fun c_125 => ?_)
        · have h := br_F h c_125
          refine lv_iload_n hx hb dX7_stateOf_133 rfl (lv_at hl 2 rfl) ?_
          refine lv_if_ne (tgt := 142) hx hb dX7_stateOf_134 (by decide) (fun c_134 => ?_) (fun c_134 => ?_)
          · have h := br_F h c_134
            refine lv_bipush (v := 111) hx hb dX7_stateOf_142 (by decide) ?_
            exact MQi.end hx hb hr hlocks hP hS dX7_stateOf_144 rfl h
          · have h := br_T h c_134
            refine lv_bipush (v := 120) hx hb dX7_stateOf_137 (by decide) ?_
            refine lv_goto (tgt := 144) hx hb dX7_stateOf_139 (by decide) ?_
            exact MQi.end hx hb hr hlocks hP hS dX7_stateOf_144 rfl h
        · have h := br_T h c_125
          refine lv_bipush (v := 97) hx hb dX7_stateOf_128 (by decide) ?_
          refine lv_goto (tgt := 144) hx hb dX7_stateOf_130 (by decide) ?_
          exact MQi.end hx hb hr hlocks hP hS dX7_stateOf_144 rfl h
      · have h := br_F h c_116
        refine lv_bipush (v := 114) hx hb dX7_stateOf_119 (by decide) ?_
        refine lv_goto (tgt := 144) hx hb dX7_stateOf_121 (by decide) ?_
        exact MQi.end hx hb hr hlocks hP hS dX7_stateOf_144 rfl h
    · have h := br_F h c_100
      refine lv_bipush (v := 99) hx hb dX7_stateOf_103 (by decide) ?_
      refine lv_goto (tgt := 144) hx hb dX7_stateOf_105 (by decide) ?_
      exact MQi.end hx hb hr hlocks hP hS dX7_stateOf_144 rfl h
  · have h := br_F h c_31
    refine lv_aload_n hx hb dX7_stateOf_34 rfl (lv_at hl 0 rfl) ?_
    refine lv_iload hx hb dX7_stateOf_35 (lv_at hl 4 rfl) ?_
    obtain ⟨r_5, hr_5, h⟩ := bd_ex h
    refine ro_i (va_runV (As := [.int x4]) (rest := []) ⟨hx, hb, hml, hown, hts⟩ (kX7_completes l G q C x4 r_5 hr_5) (cwV 1 hts gX7_stateOf_X7_completes rfl rfl rfl (by decide +kernel) ⟨Nat.le_of_ble_eq_true rfl, Nat.le_of_ble_eq_true rfl⟩) (roV hP hK 8 0 rfl rfl) rfl rfl hl.1 rfl (lv_room (Nat.le_of_ble_eq_true rfl)) dX7_stateOf_37 ⟨Nat.zero_le _, Nat.zero_le _⟩) ?_
    refine lv_istore (lv' := [(5, .int r_5), (0, .ref (q 0)), (1, .int x1), (2, .int x2), (3, .int x3), (4, .int x4)]) hx hb dX7_stateOf_40 hl (by decide) rfl (fun ls hl => ?_)
    refine lv_iload_n hx hb dX7_stateOf_42 rfl (lv_at hl 3 rfl) ?_
    refine lv_iload hx hb dX7_stateOf_43 (lv_at hl 0 rfl) ?_
    refine lv_if_eq (tgt := 61) hx hb dX7_stateOf_45 (by decide) (fun c_45 => ?_) (fun c_45 => ?_)
    · have h := br_T h c_45
      exact wX7_stateOf_61 bx hA hK hk23 C x1 x3 x4 r_5 x2 h hP hD hS _ (lv_sub hl [1, 2, 4, 5, 0] rfl)
    · have h := br_F h c_45
      refine lv_iload hx hb dX7_stateOf_48 (lv_at hl 5 rfl) ?_
      refine lv_iload_n hx hb dX7_stateOf_50 rfl (lv_at hl 2 rfl) ?_
      obtain ⟨r_10, hr_10, h⟩ := bd_ex h
      refine ro_i (va_runS (As := [.int x4, .int x1]) (rest := [.int x2]) ⟨hx, hb, hml, hown, hts⟩ (kX7_has l G q C x4 x1 r_10 hr_10) (va_cwS 2 hts gX7_stateOf_X7_has rfl rfl rfl (by decide +kernel) ⟨Nat.le_of_ble_eq_true rfl, Nat.le_of_ble_eq_true rfl⟩) (roS hP hK) rfl rfl hl.1 rfl (lv_room (Nat.le_of_ble_eq_true rfl)) dX7_stateOf_51 ⟨Nat.zero_le _, Nat.zero_le _⟩) ?_
      refine lv_if_eq (tgt := 61) hx hb dX7_stateOf_54 (by decide) (fun c_54 => ?_) (fun c_54 => ?_)
      · have h := br_T h c_54
        exact wX7_stateOf_61 bx hA hK hk23 C x1 x3 x4 r_5 x2 h hP hD hS _ (lv_sub hl [1, 2, 4, 5, 0] rfl)
      · have h := br_F h c_54
        refine lv_iconst (v := 1) hx hb dX7_stateOf_57 (by decide) ?_
        refine lv_goto (tgt := 62) hx hb dX7_stateOf_58 (by decide) ?_
        exact wX7_stateOf_62 bx hA hK hk23 C x1 x3 x4 r_5 x2 1 h hP hD hS _ (lv_sub hl [1, 2, 4, 5, 0] rfl)

theorem wX7_stateOf_23 {p : Program} {l : Launch} {e : Env} {s : State} {m : MethodId} {args : Array Value} {below : List Frame} {meth : Method} {c : Code} {G : GT} {q : Nat → Nat} {A : Nat → Prop} {out : Int32 × St} (bx : BX p RX7 wsX7_stateOf cX7_stateOf 6 (some .char) s m args meth c) (hA : ∀ q : Nat, s.heap.size ≤ q → A q) (hK : CK G s) :
    ∀ (n : Nat) (C : St) (x1 : Int32) (x2 : Int32) (x3 : Int32) (x4 : Int32), pX7_stateOf_23 n C x1 x2 x3 x4 = some out → ∀ (H : Heap) (locs : List Loc) (hP : va_P G.1 vwCl (MW G q C) H) (hD : va_D A (MW G q C)) (hS : va_S A s.heap H locs), ∀ (ls : Array Slot), lv_has ls 6 [(0, .ref (q 0)), (1, .int x1), (2, .int x2), (3, .int x3), (4, .int x4)] → W p l e rmX7_stateOf s m args below meth c H locs 0 0 (MQi G (MW G q) A s args below out) (F0 m 23 ls []) := by
  intro n
  induction n with
  | zero => intro _ _ _ _ _ h; cases h
  | succ n ih => exact fun a0 a1 a2 a3 a4 h _ _ hP hD hS ls hl => wX7_stateOf_23_b bx hA hK ih a0 a1 a2 a3 a4 h hP hD hS ls hl

set_option maxHeartbeats 4000000 in
set_option maxRecDepth 100000 in
theorem kX7_stateOf (l : Launch) (G : GT) (q : Nat → Nat) (C : St) (sz : Nat) (x1 : Int32) (r : Int32 × St) (h : pX7_stateOf C x1 = some r) : Met l yX7_stateOf wsX7_stateOf rmX7_stateOf (va_Pc [.ref (q 0), .int x1] (wrP G (MW G q C) sz)) (va_Qi (fun v u => (v, u) = r) (fun u t => va_P G.1 vwCl (MW G q u) t.heap) (va_A (MW G q C) sz)) 0 0 (va_A (MW G q C) sz) := by
  refine Met.ofW (cc := cX7_stateOf) (maxL := 6) (ret := (some .char)) (by decide) rfl ?_
  intro p e s m args below meth c s₁ B hml hv
  obtain ⟨rfl, hsz, hP, hK, hD0⟩ := hv
  have bx := bx_of B hml
  subst hsz
  have hD := hD0.self (sz := s.heap.size)
  generalize hAe : va_A (MW G q C) s.heap.size = A at hD ⊢
  have hA : ∀ q : Nat, s.heap.size ≤ q → A q := fun q h => by rw [← hAe]; exact Or.inr h
  have hS : va_S A s.heap s.heap [] := va_S.rf
  obtain ⟨hx, hb, hr, hts, hown, hml, hlocks⟩ := id bx
  have hl := lv_entry ([.ref (q 0), .int x1]) (n := 6) (Nat.le_of_ble_eq_true rfl)
  rw [lg_entry_eq]
  generalize (lg_sl ([.ref (q 0), .int x1]) ++ List.replicate (6 - (lg_sl ([.ref (q 0), .int x1])).length) Slot.unset).toArray = ls at hl ⊢
  have hl : lv_has ls 6 [(0, .ref (q 0)), (1, .int x1)] := hl
  show W p l e rmX7_stateOf s m _ below meth c s.heap [] 0 0 (MQi G (MW G q) A s _ below r) (F0 m 0 ls [])
  unfold pX7_stateOf at h
  refine lv_aload_n hx hb dX7_stateOf_0 rfl (lv_at hl 0 rfl) ?_
  refine lv_aload_n hx hb dX7_stateOf_1 rfl (lv_at hl 0 rfl) ?_
  refine lv_iload_n hx hb dX7_stateOf_2 rfl (lv_at hl 1 rfl) ?_
  obtain ⟨r_1, hr_1, h⟩ := bd_ex h
  refine ro_i (va_runV (As := [.int x1]) (rest := [.ref (q 0)]) ⟨hx, hb, hml, hown, hts⟩ (kX7_isNone l G q C x1 r_1 hr_1) (cwV 1 hts gX7_stateOf_X7_isNone rfl rfl rfl (by decide +kernel) ⟨Nat.le_of_ble_eq_true rfl, Nat.le_of_ble_eq_true rfl⟩) (roV hP hK 8 0 rfl rfl) rfl rfl hl.1 rfl (lv_room (Nat.le_of_ble_eq_true rfl)) dX7_stateOf_3 ⟨Nat.zero_le _, Nat.zero_le _⟩) ?_
  refine lv_iconst (v := 1) hx hb dX7_stateOf_6 (by decide) ?_
  obtain ⟨u_2, hu_2, h⟩ := bd_ex h
  refine wr_i (Wd := MW G q) (va_runV (As := [.int r_1, .int 1]) (rest := []) ⟨hx, hb, hml, hown, hts⟩ (kX7_isThrown l G q C _ r_1 1 u_2 hu_2) (cwV 2 hts gX7_stateOf_X7_isThrown rfl rfl rfl (by decide +kernel) ⟨Nat.le_of_ble_eq_true rfl, Nat.le_of_ble_eq_true rfl⟩) (wrV hP hD hK 8 0 rfl rfl) rfl rfl hl.1 rfl (lv_room (Nat.le_of_ble_eq_true rfl)) dX7_stateOf_7 ⟨Nat.zero_le _, Nat.zero_le _⟩) hD hS hA (fun _ => rfl) (fun H locs hP hD hS => ?_)
  refine lv_if_eq (tgt := 16) hx hb dX7_stateOf_10 (by decide) (fun c_10 => ?_) (fun c_10 => ?_)
  · have h := br_T h c_10
    refine lv_iconst (v := 0) hx hb dX7_stateOf_16 (by decide) ?_
    refine lv_istore_n (lv' := [(2, .int 0), (0, .ref (q 0)), (1, .int x1)]) hx hb dX7_stateOf_17 rfl hl (by decide) rfl (fun ls hl => ?_)
    refine lv_iconst (v := 0) hx hb dX7_stateOf_18 (by decide) ?_
    refine lv_istore_n (lv' := [(3, .int 0), (2, .int 0), (0, .ref (q 0)), (1, .int x1)]) hx hb dX7_stateOf_19 rfl hl (by decide) rfl (fun ls hl => ?_)
    refine lv_iconst (v := 1) hx hb dX7_stateOf_20 (by decide) ?_
    refine lv_istore (lv' := [(4, .int 1), (3, .int 0), (2, .int 0), (0, .ref (q 0)), (1, .int x1)]) hx hb dX7_stateOf_21 hl (by decide) rfl (fun ls hl => ?_)
    exact wX7_stateOf_23 bx hA hK FU u_2.2 x1 0 0 1 h _ _ hP hD hS _ (lv_sub hl [3, 4, 2, 1, 0] rfl)
  · have h := br_F h c_10
    refine lv_bipush (v := 45) hx hb dX7_stateOf_13 (by decide) ?_
    exact MQi.end hx hb hr hlocks hP hS dX7_stateOf_15 rfl h

def rmX7_stateByAll : Room := { frames := 5, cells := 0, slots := 0, locals := 114 }

set_option maxHeartbeats 4000000 in
set_option maxRecDepth 100000 in
theorem kX7_stateByAll (l : Launch) (G : GT) (q : Nat → Nat) (C : St) (sz : Nat) (x1 : Int32) (r : Int32 × St) (h : pX7_stateByAll C x1 = some r) : Met l yX7_stateByAll wsX7_stateByAll rmX7_stateByAll (va_Pc [.ref (q 0), .int x1] (wrP G (MW G q C) sz)) (va_Qi (fun v u => (v, u) = r) (fun u t => va_P G.1 vwCl (MW G q u) t.heap) (va_A (MW G q C) sz)) 0 0 (va_A (MW G q C) sz) := by
  refine Met.ofW (cc := cX7_stateByAll) (maxL := 2) (ret := (some .char)) (by decide) rfl ?_
  intro p e s m args below meth c s₁ B hml hv
  obtain ⟨rfl, hsz, hP, hK, hD0⟩ := hv
  have bx := bx_of B hml
  subst hsz
  have hD := hD0.self (sz := s.heap.size)
  generalize hAe : va_A (MW G q C) s.heap.size = A at hD ⊢
  have hA : ∀ q : Nat, s.heap.size ≤ q → A q := fun q h => by rw [← hAe]; exact Or.inr h
  have hS : va_S A s.heap s.heap [] := va_S.rf
  obtain ⟨hx, hb, hr, hts, hown, hml, hlocks⟩ := id bx
  have hl := lv_entry ([.ref (q 0), .int x1]) (n := 2) (Nat.le_of_ble_eq_true rfl)
  rw [lg_entry_eq]
  generalize (lg_sl ([.ref (q 0), .int x1]) ++ List.replicate (2 - (lg_sl ([.ref (q 0), .int x1])).length) Slot.unset).toArray = ls at hl ⊢
  have hl : lv_has ls 2 [(0, .ref (q 0)), (1, .int x1)] := hl
  show W p l e rmX7_stateByAll s m _ below meth c s.heap [] 0 0 (MQi G (MW G q) A s _ below r) (F0 m 0 ls [])
  unfold pX7_stateByAll at h
  refine lv_aload_n hx hb dX7_stateByAll_0 rfl (lv_at hl 0 rfl) ?_
  refine lv_iload_n hx hb dX7_stateByAll_1 rfl (lv_at hl 1 rfl) ?_
  obtain ⟨u_1, hu_1, h⟩ := bd_ex h
  refine wr_i (Wd := MW G q) (va_runV (As := [.int x1]) (rest := []) ⟨hx, hb, hml, hown, hts⟩ (kX7_stateOf l G q C _ x1 u_1 hu_1) (cwV 1 hts gX7_stateByAll_X7_stateOf rfl rfl rfl (by decide +kernel) ⟨Nat.le_of_ble_eq_true rfl, Nat.le_of_ble_eq_true rfl⟩) (wrV hP hD hK 8 0 rfl rfl) rfl rfl hl.1 rfl (lv_room (Nat.le_of_ble_eq_true rfl)) dX7_stateByAll_2 ⟨Nat.zero_le _, Nat.zero_le _⟩) hD hS hA (fun _ => rfl) (fun H locs hP hD hS => ?_)
  obtain ⟨g5, h⟩ := gd_ex h
  exact MQi.end hx hb hr hlocks hP hS dX7_stateByAll_5 (okC_n g5) h
