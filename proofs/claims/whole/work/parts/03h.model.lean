def rmX7_isIn : Room := { frames := 0, cells := 0, slots := 0, locals := 0 }

set_option maxHeartbeats 4000000 in
set_option maxRecDepth 100000 in
theorem kX7_isIn (l : Launch) (G : GT) (q : Nat → Nat) (C : St) (x0 : Int32) (x1 : Int32) (x2 : Int32) (r : Int32) (h : pX7_isIn C x0 x1 x2 = some r) : Met l yX7_isIn wsX7_isIn rmX7_isIn (va_Pc [.int x0, .int x1, .int x2] (roP G (MW G q C))) (vp_Si (fun v => v = r)) 0 0 (fun _ => False) := by
  refine Met.ofW (cc := cX7_isIn) (maxL := 3) (ret := (some .boolean)) (by decide) rfl ?_
  intro p e s m args below meth c s₁ B hml hv
  obtain ⟨rfl, hP, hK⟩ := hv
  have bx := bx_of B hml
  obtain ⟨hx, hb, hr, hts, hown, hml, hlocks⟩ := id bx
  have hl := lv_entry ([.int x0, .int x1, .int x2]) (n := 3) (Nat.le_of_ble_eq_true rfl)
  rw [lg_entry_eq]
  generalize (lg_sl ([.int x0, .int x1, .int x2]) ++ List.replicate (3 - (lg_sl ([.int x0, .int x1, .int x2])).length) Slot.unset).toArray = ls at hl ⊢
  have hl : lv_has ls 3 [(0, .int x0), (1, .int x1), (2, .int x2)] := hl
  show GoI p l e rmX7_isIn s m _ below meth c r (F0 m 0 ls [])
  unfold pX7_isIn at h
  refine lv_iload_n hx hb dX7_isIn_0 rfl (lv_at hl 0 rfl) ?_
  refine lv_iload_n hx hb dX7_isIn_1 rfl (lv_at hl 1 rfl) ?_
  refine lv_icmp_lt (tgt := 14) hx hb dX7_isIn_2 (by decide) (fun c_2 => ?_) (fun c_2 => ?_)
  · have h := br_T h c_2
    refine lv_iconst (v := 0) hx hb dX7_isIn_14 (by decide) ?_
    exact GoI.end hx hb hr hlocks dX7_isIn_15 rfl h
  · have h := br_F h c_2
    refine lv_iload_n hx hb dX7_isIn_5 rfl (lv_at hl 0 rfl) ?_
    refine lv_iload_n hx hb dX7_isIn_6 rfl (lv_at hl 2 rfl) ?_
    refine lv_icmp_gt (tgt := 14) hx hb dX7_isIn_7 (by decide) (fun c_7 => ?_) (fun c_7 => ?_)
    · have h := br_T h c_7
      refine lv_iconst (v := 0) hx hb dX7_isIn_14 (by decide) ?_
      exact GoI.end hx hb hr hlocks dX7_isIn_15 rfl h
    · have h := br_F h c_7
      refine lv_iconst (v := 1) hx hb dX7_isIn_10 (by decide) ?_
      refine lv_goto (tgt := 15) hx hb dX7_isIn_11 (by decide) ?_
      exact GoI.end hx hb hr hlocks dX7_isIn_15 rfl h

def rmX7_isNone : Room := { frames := 1, cells := 0, slots := 0, locals := 22 }

theorem in_wsX7_isNone_X7 : ∀ w ∈ u_ws RX7 TX7 24, w ∈ wsX7_isNone := by decide +kernel

set_option maxHeartbeats 4000000 in
set_option maxRecDepth 100000 in
theorem kX7_isNone (l : Launch) (G : GT) (q : Nat → Nat) (C : St) (x1 : Int32) (r : Int32) (h : pX7_isNone C x1 = some r) : Met l yX7_isNone wsX7_isNone rmX7_isNone (va_Pc [.ref (q 0), .int x1] (roP G (MW G q C))) (vp_Si (fun v => v = r)) 0 0 (fun _ => False) := by
  refine Met.ofW (cc := cX7_isNone) (maxL := 2) (ret := (some .boolean)) (by decide) rfl ?_
  intro p e s m args below meth c s₁ B hml hv
  obtain ⟨rfl, hP, hK⟩ := hv
  have bx := bx_of B hml
  obtain ⟨hx, hb, hr, hts, hown, hml, hlocks⟩ := id bx
  have hl := lv_entry ([.ref (q 0), .int x1]) (n := 2) (Nat.le_of_ble_eq_true rfl)
  rw [lg_entry_eq]
  generalize (lg_sl ([.ref (q 0), .int x1]) ++ List.replicate (2 - (lg_sl ([.ref (q 0), .int x1])).length) Slot.unset).toArray = ls at hl ⊢
  have hl : lv_has ls 2 [(0, .ref (q 0)), (1, .int x1)] := hl
  show GoI p l e rmX7_isNone s m _ below meth c r (F0 m 0 ls [])
  unfold pX7_isNone at h
  refine lv_iload_n hx hb dX7_isNone_0 rfl (lv_at hl 1 rfl) ?_
  refine lv_iconst (v := 0) hx hb dX7_isNone_1 (by decide) ?_
  refine lv_aload_n hx hb dX7_isNone_2 rfl (lv_at hl 0 rfl) ?_
  refine va_get (D := G.1) (ci := 8) (v := .int (C.1 0)) (C := RX7) (T := TX7) (N := 24) hx hb hts in_wsX7_isNone_X7 hown hK.1 hP 0 rfl rfl 16 (by decide) (w_mem hts 1 rfl) (fun _ h9 => h9) rfl dX7_isNone_3 ?_
  refine lv_iconst (v := 1) hx hb dX7_isNone_6 (by decide) ?_
  refine lv_isub hx hb dX7_isNone_7 ?_
  obtain ⟨r_1, hr_1, h⟩ := bd_ex h
  refine ro_i (va_runS (As := [.int x1, .int 0, .int ((C.1 0) - 1)]) (rest := []) ⟨hx, hb, hml, hown, hts⟩ (kX7_isIn l G q C x1 0 ((C.1 0) - 1) r_1 hr_1) (va_cwS 3 hts gX7_isNone_X7_isIn rfl rfl rfl (by decide +kernel) ⟨Nat.le_of_ble_eq_true rfl, Nat.le_of_ble_eq_true rfl⟩) (roS hP hK) rfl rfl hl.1 rfl (lv_room (Nat.le_of_ble_eq_true rfl)) dX7_isNone_8 ⟨Nat.zero_le _, Nat.zero_le _⟩) ?_
  refine lv_if_ne (tgt := 18) hx hb dX7_isNone_11 (by decide) (fun c_11 => ?_) (fun c_11 => ?_)
  · have h := br_F h c_11
    refine lv_iconst (v := 0) hx hb dX7_isNone_18 (by decide) ?_
    exact GoI.end hx hb hr hlocks dX7_isNone_19 rfl h
  · have h := br_T h c_11
    refine lv_iconst (v := 1) hx hb dX7_isNone_14 (by decide) ?_
    refine lv_goto (tgt := 19) hx hb dX7_isNone_15 (by decide) ?_
    exact GoI.end hx hb hr hlocks dX7_isNone_19 rfl h

def rmX7_has : Room := { frames := 0, cells := 0, slots := 0, locals := 0 }

set_option maxHeartbeats 4000000 in
set_option maxRecDepth 100000 in
theorem kX7_has (l : Launch) (G : GT) (q : Nat → Nat) (C : St) (x0 : Int32) (x1 : Int32) (r : Int32) (h : pX7_has C x0 x1 = some r) : Met l yX7_has wsX7_has rmX7_has (va_Pc [.int x0, .int x1] (roP G (MW G q C))) (vp_Si (fun v => v = r)) 0 0 (fun _ => False) := by
  refine Met.ofW (cc := cX7_has) (maxL := 2) (ret := (some .boolean)) (by decide) rfl ?_
  intro p e s m args below meth c s₁ B hml hv
  obtain ⟨rfl, hP, hK⟩ := hv
  have bx := bx_of B hml
  obtain ⟨hx, hb, hr, hts, hown, hml, hlocks⟩ := id bx
  have hl := lv_entry ([.int x0, .int x1]) (n := 2) (Nat.le_of_ble_eq_true rfl)
  rw [lg_entry_eq]
  generalize (lg_sl ([.int x0, .int x1]) ++ List.replicate (2 - (lg_sl ([.int x0, .int x1])).length) Slot.unset).toArray = ls at hl ⊢
  have hl : lv_has ls 2 [(0, .int x0), (1, .int x1)] := hl
  show GoI p l e rmX7_has s m _ below meth c r (F0 m 0 ls [])
  unfold pX7_has at h
  refine lv_iload_n hx hb dX7_has_0 rfl (lv_at hl 0 rfl) ?_
  refine lv_iload_n hx hb dX7_has_1 rfl (lv_at hl 1 rfl) ?_
  refine lv_ishr hx hb dX7_has_2 ?_
  refine lv_iconst (v := 1) hx hb dX7_has_3 (by decide) ?_
  refine lv_iand hx hb dX7_has_4 ?_
  refine lv_iconst (v := 1) hx hb dX7_has_5 (by decide) ?_
  refine lv_icmp_ne (tgt := 13) hx hb dX7_has_6 (by decide) (fun c_6 => ?_) (fun c_6 => ?_)
  · have h := br_F h c_6
    refine lv_iconst (v := 0) hx hb dX7_has_13 (by decide) ?_
    exact GoI.end hx hb hr hlocks dX7_has_14 rfl h
  · have h := br_T h c_6
    refine lv_iconst (v := 1) hx hb dX7_has_9 (by decide) ?_
    refine lv_goto (tgt := 14) hx hb dX7_has_10 (by decide) ?_
    exact GoI.end hx hb hr hlocks dX7_has_14 rfl h

def rmX7_keeps : Room := { frames := 1, cells := 0, slots := 0, locals := 21 }

theorem in_wsX7_keeps_X7 : ∀ w ∈ u_ws RX7 TX7 24, w ∈ wsX7_keeps := by decide +kernel

set_option maxHeartbeats 4000000 in
set_option maxRecDepth 100000 in
theorem kX7_keeps (l : Launch) (G : GT) (q : Nat → Nat) (C : St) (x1 : Int32) (x2 : Int32) (r : Int32) (h : pX7_keeps C x1 x2 = some r) : Met l yX7_keeps wsX7_keeps rmX7_keeps (va_Pc [.ref (q 0), .int x1, .int x2] (roP G (MW G q C))) (vp_Si (fun v => v = r)) 0 0 (fun _ => False) := by
  refine Met.ofW (cc := cX7_keeps) (maxL := 3) (ret := (some .boolean)) (by decide) rfl ?_
  intro p e s m args below meth c s₁ B hml hv
  obtain ⟨rfl, hP, hK⟩ := hv
  have bx := bx_of B hml
  obtain ⟨hx, hb, hr, hts, hown, hml, hlocks⟩ := id bx
  have hl := lv_entry ([.ref (q 0), .int x1, .int x2]) (n := 3) (Nat.le_of_ble_eq_true rfl)
  rw [lg_entry_eq]
  generalize (lg_sl ([.ref (q 0), .int x1, .int x2]) ++ List.replicate (3 - (lg_sl ([.ref (q 0), .int x1, .int x2])).length) Slot.unset).toArray = ls at hl ⊢
  have hl : lv_has ls 3 [(0, .ref (q 0)), (1, .int x1), (2, .int x2)] := hl
  show GoI p l e rmX7_keeps s m _ below meth c r (F0 m 0 ls [])
  unfold pX7_keeps at h
  refine lv_aload_n hx hb dX7_keeps_0 rfl (lv_at hl 0 rfl) ?_
  refine va_get (D := G.1) (ci := 8) (v := .ref (q 7)) (C := RX7) (T := TX7) (N := 24) hx hb hts in_wsX7_keeps_X7 hown hK.1 hP 0 rfl rfl 6 (by decide) (w_mem hts 1 rfl) (fun _ h9 => h9) rfl dX7_keeps_1 ?_
  refine lv_iload_n hx hb dX7_keeps_4 rfl (lv_at hl 1 rfl) ?_
  obtain ⟨g5, h⟩ := gd_ex h
  refine va_cald (D := G.1) hx hb hK.1 hP 7 1 rfl rfl g5 dX7_keeps_5 ?_
  refine lv_bipush (v := 114) hx hb dX7_keeps_6 (by decide) ?_
  refine lv_icmp_ne (tgt := 45) hx hb dX7_keeps_8 (by decide) (fun c_8 => ?_) (fun c_8 => ?_)
  · have h := br_F h c_8
    refine lv_aload_n hx hb dX7_keeps_45 rfl (lv_at hl 0 rfl) ?_
    refine va_get (D := G.1) (ci := 8) (v := .ref (q 7)) (C := RX7) (T := TX7) (N := 24) hx hb hts in_wsX7_keeps_X7 hown hK.1 hP 0 rfl rfl 6 (by decide) (w_mem hts 1 rfl) (fun _ h9 => h9) rfl dX7_keeps_46 ?_
    refine lv_iload_n hx hb dX7_keeps_49 rfl (lv_at hl 1 rfl) ?_
    obtain ⟨g50, h⟩ := gd_ex h
    refine va_cald (D := G.1) hx hb hK.1 hP 7 1 rfl rfl g50 dX7_keeps_50 ?_
    refine lv_bipush (v := 101) hx hb dX7_keeps_51 (by decide) ?_
    refine lv_icmp_ne (tgt := 90) hx hb dX7_keeps_53 (by decide) (fun c_53 => ?_) (fun c_53 => ?_)
    · have h := br_F h c_53
      refine lv_iload_n hx hb dX7_keeps_90 rfl (lv_at hl 2 rfl) ?_
      refine lv_aload_n hx hb dX7_keeps_91 rfl (lv_at hl 0 rfl) ?_
      refine va_get (D := G.1) (ci := 8) (v := .ref (q 10)) (C := RX7) (T := TX7) (N := 24) hx hb hts in_wsX7_keeps_X7 hown hK.1 hP 0 rfl rfl 9 (by decide) (w_mem hts 2 rfl) (fun _ h9 => h9) rfl dX7_keeps_92 ?_
      refine lv_iload_n hx hb dX7_keeps_95 rfl (lv_at hl 1 rfl) ?_
      obtain ⟨g96, h⟩ := gd_ex h
      refine va_iald (D := G.1) hx hb hK.1 hP 10 0 rfl rfl g96 dX7_keeps_96 ?_
      obtain ⟨r_1, hr_1, h⟩ := bd_ex h
      refine ro_i (va_runS (As := [.int x2, .int (C.2 9 x1.toNatClampNeg)]) (rest := []) ⟨hx, hb, hml, hown, hts⟩ (kX7_has l G q C x2 (C.2 9 x1.toNatClampNeg) r_1 hr_1) (va_cwS 2 hts gX7_keeps_X7_has rfl rfl rfl (by decide +kernel) ⟨Nat.le_of_ble_eq_true rfl, Nat.le_of_ble_eq_true rfl⟩) (roS hP hK) rfl rfl hl.1 rfl (lv_room (Nat.le_of_ble_eq_true rfl)) dX7_keeps_97 ⟨Nat.zero_le _, Nat.zero_le _⟩) ?_
      refine lv_if_ne (tgt := 129) hx hb dX7_keeps_100 (by decide) (fun c_100 => ?_) (fun c_100 => ?_)
      · have h := br_F h c_100
        refine lv_iconst (v := 1) hx hb dX7_keeps_129 (by decide) ?_
        refine lv_goto (tgt := 134) hx hb dX7_keeps_130 (by decide) ?_
        exact GoI.end hx hb hr hlocks dX7_keeps_134 rfl h
      · have h := br_T h c_100
        refine lv_iload_n hx hb dX7_keeps_103 rfl (lv_at hl 2 rfl) ?_
        refine lv_aload_n hx hb dX7_keeps_104 rfl (lv_at hl 0 rfl) ?_
        refine va_get (D := G.1) (ci := 8) (v := .ref (q 11)) (C := RX7) (T := TX7) (N := 24) hx hb hts in_wsX7_keeps_X7 hown hK.1 hP 0 rfl rfl 10 (by decide) (w_mem hts 3 rfl) (fun _ h9 => h9) rfl dX7_keeps_105 ?_
        refine lv_iload_n hx hb dX7_keeps_108 rfl (lv_at hl 1 rfl) ?_
        obtain ⟨g109, h⟩ := gd_ex h
        refine va_iald (D := G.1) hx hb hK.1 hP 11 0 rfl rfl g109 dX7_keeps_109 ?_
        obtain ⟨r_2, hr_2, h⟩ := bd_ex h
        refine ro_i (va_runS (As := [.int x2, .int (C.2 10 x1.toNatClampNeg)]) (rest := []) ⟨hx, hb, hml, hown, hts⟩ (kX7_has l G q C x2 (C.2 10 x1.toNatClampNeg) r_2 hr_2) (va_cwS 2 hts gX7_keeps_X7_has rfl rfl rfl (by decide +kernel) ⟨Nat.le_of_ble_eq_true rfl, Nat.le_of_ble_eq_true rfl⟩) (roS hP hK) rfl rfl hl.1 rfl (lv_room (Nat.le_of_ble_eq_true rfl)) dX7_keeps_110 ⟨Nat.zero_le _, Nat.zero_le _⟩) ?_
        refine lv_if_ne (tgt := 129) hx hb dX7_keeps_113 (by decide) (fun c_113 => ?_) (fun c_113 => ?_)
        · have h := br_F h c_113
          refine lv_iconst (v := 1) hx hb dX7_keeps_129 (by decide) ?_
          refine lv_goto (tgt := 134) hx hb dX7_keeps_130 (by decide) ?_
          exact GoI.end hx hb hr hlocks dX7_keeps_134 rfl h
        · have h := br_T h c_113
          refine lv_iload_n hx hb dX7_keeps_116 rfl (lv_at hl 2 rfl) ?_
          refine lv_aload_n hx hb dX7_keeps_117 rfl (lv_at hl 0 rfl) ?_
          refine va_get (D := G.1) (ci := 8) (v := .ref (q 12)) (C := RX7) (T := TX7) (N := 24) hx hb hts in_wsX7_keeps_X7 hown hK.1 hP 0 rfl rfl 11 (by decide) (w_mem hts 4 rfl) (fun _ h9 => h9) rfl dX7_keeps_118 ?_
          refine lv_iload_n hx hb dX7_keeps_121 rfl (lv_at hl 1 rfl) ?_
          obtain ⟨g122, h⟩ := gd_ex h
          refine va_iald (D := G.1) hx hb hK.1 hP 12 0 rfl rfl g122 dX7_keeps_122 ?_
          obtain ⟨r_3, hr_3, h⟩ := bd_ex h
          refine ro_i (va_runS (As := [.int x2, .int (C.2 11 x1.toNatClampNeg)]) (rest := []) ⟨hx, hb, hml, hown, hts⟩ (kX7_has l G q C x2 (C.2 11 x1.toNatClampNeg) r_3 hr_3) (va_cwS 2 hts gX7_keeps_X7_has rfl rfl rfl (by decide +kernel) ⟨Nat.le_of_ble_eq_true rfl, Nat.le_of_ble_eq_true rfl⟩) (roS hP hK) rfl rfl hl.1 rfl (lv_room (Nat.le_of_ble_eq_true rfl)) dX7_keeps_123 ⟨Nat.zero_le _, Nat.zero_le _⟩) ?_
          refine lv_if_eq (tgt := 133) hx hb dX7_keeps_126 (by decide) (fun c_126 => ?_) (fun c_126 => ?_)
          · have h := br_T h c_126
            refine lv_iconst (v := 0) hx hb dX7_keeps_133 (by decide) ?_
            exact GoI.end hx hb hr hlocks dX7_keeps_134 rfl h
          · have h := br_F h c_126
            refine lv_iconst (v := 1) hx hb dX7_keeps_129 (by decide) ?_
            refine lv_goto (tgt := 134) hx hb dX7_keeps_130 (by decide) ?_
            exact GoI.end hx hb hr hlocks dX7_keeps_134 rfl h
    · have h := br_T h c_53
      refine lv_iload_n hx hb dX7_keeps_56 rfl (lv_at hl 2 rfl) ?_
      refine lv_aload_n hx hb dX7_keeps_57 rfl (lv_at hl 0 rfl) ?_
      refine va_get (D := G.1) (ci := 8) (v := .ref (q 10)) (C := RX7) (T := TX7) (N := 24) hx hb hts in_wsX7_keeps_X7 hown hK.1 hP 0 rfl rfl 9 (by decide) (w_mem hts 2 rfl) (fun _ h9 => h9) rfl dX7_keeps_58 ?_
      refine lv_iload_n hx hb dX7_keeps_61 rfl (lv_at hl 1 rfl) ?_
      obtain ⟨g62, h⟩ := gd_ex h
      refine va_iald (D := G.1) hx hb hK.1 hP 10 0 rfl rfl g62 dX7_keeps_62 ?_
      obtain ⟨r_4, hr_4, h⟩ := bd_ex h
      refine ro_i (va_runS (As := [.int x2, .int (C.2 9 x1.toNatClampNeg)]) (rest := []) ⟨hx, hb, hml, hown, hts⟩ (kX7_has l G q C x2 (C.2 9 x1.toNatClampNeg) r_4 hr_4) (va_cwS 2 hts gX7_keeps_X7_has rfl rfl rfl (by decide +kernel) ⟨Nat.le_of_ble_eq_true rfl, Nat.le_of_ble_eq_true rfl⟩) (roS hP hK) rfl rfl hl.1 rfl (lv_room (Nat.le_of_ble_eq_true rfl)) dX7_keeps_63 ⟨Nat.zero_le _, Nat.zero_le _⟩) ?_
      refine lv_if_eq (tgt := 82) hx hb dX7_keeps_66 (by decide) (fun c_66 => ?_) (fun c_66 => ?_)
      · have h := br_T h c_66
        refine lv_iconst (v := 1) hx hb dX7_keeps_82 (by decide) ?_
        refine lv_goto (tgt := 134) hx hb dX7_keeps_83 (by decide) ?_
        exact GoI.end hx hb hr hlocks dX7_keeps_134 rfl h
      · have h := br_F h c_66
        refine lv_iload_n hx hb dX7_keeps_69 rfl (lv_at hl 2 rfl) ?_
        refine lv_aload_n hx hb dX7_keeps_70 rfl (lv_at hl 0 rfl) ?_
        refine va_get (D := G.1) (ci := 8) (v := .ref (q 11)) (C := RX7) (T := TX7) (N := 24) hx hb hts in_wsX7_keeps_X7 hown hK.1 hP 0 rfl rfl 10 (by decide) (w_mem hts 3 rfl) (fun _ h9 => h9) rfl dX7_keeps_71 ?_
        refine lv_iload_n hx hb dX7_keeps_74 rfl (lv_at hl 1 rfl) ?_
        obtain ⟨g75, h⟩ := gd_ex h
        refine va_iald (D := G.1) hx hb hK.1 hP 11 0 rfl rfl g75 dX7_keeps_75 ?_
        obtain ⟨r_5, hr_5, h⟩ := bd_ex h
        refine ro_i (va_runS (As := [.int x2, .int (C.2 10 x1.toNatClampNeg)]) (rest := []) ⟨hx, hb, hml, hown, hts⟩ (kX7_has l G q C x2 (C.2 10 x1.toNatClampNeg) r_5 hr_5) (va_cwS 2 hts gX7_keeps_X7_has rfl rfl rfl (by decide +kernel) ⟨Nat.le_of_ble_eq_true rfl, Nat.le_of_ble_eq_true rfl⟩) (roS hP hK) rfl rfl hl.1 rfl (lv_room (Nat.le_of_ble_eq_true rfl)) dX7_keeps_76 ⟨Nat.zero_le _, Nat.zero_le _⟩) ?_
        refine lv_if_ne (tgt := 86) hx hb dX7_keeps_79 (by decide) (fun c_79 => ?_) (fun c_79 => ?_)
        · have h := br_F h c_79
          refine lv_iconst (v := 0) hx hb dX7_keeps_86 (by decide) ?_
          refine lv_goto (tgt := 134) hx hb dX7_keeps_87 (by decide) ?_
          exact GoI.end hx hb hr hlocks dX7_keeps_134 rfl h
        · have h := br_T h c_79
          refine lv_iconst (v := 1) hx hb dX7_keeps_82 (by decide) ?_
          refine lv_goto (tgt := 134) hx hb dX7_keeps_83 (by decide) ?_
          exact GoI.end hx hb hr hlocks dX7_keeps_134 rfl h
  · have h := br_T h c_8
    refine lv_iload_n hx hb dX7_keeps_11 rfl (lv_at hl 2 rfl) ?_
    refine lv_aload_n hx hb dX7_keeps_12 rfl (lv_at hl 0 rfl) ?_
    refine va_get (D := G.1) (ci := 8) (v := .ref (q 10)) (C := RX7) (T := TX7) (N := 24) hx hb hts in_wsX7_keeps_X7 hown hK.1 hP 0 rfl rfl 9 (by decide) (w_mem hts 2 rfl) (fun _ h9 => h9) rfl dX7_keeps_13 ?_
    refine lv_iload_n hx hb dX7_keeps_16 rfl (lv_at hl 1 rfl) ?_
    obtain ⟨g17, h⟩ := gd_ex h
    refine va_iald (D := G.1) hx hb hK.1 hP 10 0 rfl rfl g17 dX7_keeps_17 ?_
    obtain ⟨r_6, hr_6, h⟩ := bd_ex h
    refine ro_i (va_runS (As := [.int x2, .int (C.2 9 x1.toNatClampNeg)]) (rest := []) ⟨hx, hb, hml, hown, hts⟩ (kX7_has l G q C x2 (C.2 9 x1.toNatClampNeg) r_6 hr_6) (va_cwS 2 hts gX7_keeps_X7_has rfl rfl rfl (by decide +kernel) ⟨Nat.le_of_ble_eq_true rfl, Nat.le_of_ble_eq_true rfl⟩) (roS hP hK) rfl rfl hl.1 rfl (lv_room (Nat.le_of_ble_eq_true rfl)) dX7_keeps_18 ⟨Nat.zero_le _, Nat.zero_le _⟩) ?_
    refine lv_if_eq (tgt := 37) hx hb dX7_keeps_21 (by decide) (fun c_21 => ?_) (fun c_21 => ?_)
    · have h := br_T h c_21
      refine lv_iconst (v := 1) hx hb dX7_keeps_37 (by decide) ?_
      refine lv_goto (tgt := 134) hx hb dX7_keeps_38 (by decide) ?_
      exact GoI.end hx hb hr hlocks dX7_keeps_134 rfl h
    · have h := br_F h c_21
      refine lv_iload_n hx hb dX7_keeps_24 rfl (lv_at hl 2 rfl) ?_
      refine lv_aload_n hx hb dX7_keeps_25 rfl (lv_at hl 0 rfl) ?_
      refine va_get (D := G.1) (ci := 8) (v := .ref (q 11)) (C := RX7) (T := TX7) (N := 24) hx hb hts in_wsX7_keeps_X7 hown hK.1 hP 0 rfl rfl 10 (by decide) (w_mem hts 3 rfl) (fun _ h9 => h9) rfl dX7_keeps_26 ?_
      refine lv_iload_n hx hb dX7_keeps_29 rfl (lv_at hl 1 rfl) ?_
      obtain ⟨g30, h⟩ := gd_ex h
      refine va_iald (D := G.1) hx hb hK.1 hP 11 0 rfl rfl g30 dX7_keeps_30 ?_
      obtain ⟨r_7, hr_7, h⟩ := bd_ex h
      refine ro_i (va_runS (As := [.int x2, .int (C.2 10 x1.toNatClampNeg)]) (rest := []) ⟨hx, hb, hml, hown, hts⟩ (kX7_has l G q C x2 (C.2 10 x1.toNatClampNeg) r_7 hr_7) (va_cwS 2 hts gX7_keeps_X7_has rfl rfl rfl (by decide +kernel) ⟨Nat.le_of_ble_eq_true rfl, Nat.le_of_ble_eq_true rfl⟩) (roS hP hK) rfl rfl hl.1 rfl (lv_room (Nat.le_of_ble_eq_true rfl)) dX7_keeps_31 ⟨Nat.zero_le _, Nat.zero_le _⟩) ?_
      refine lv_if_eq (tgt := 41) hx hb dX7_keeps_34 (by decide) (fun c_34 => ?_) (fun c_34 => ?_)
      · have h := br_T h c_34
        refine lv_iconst (v := 0) hx hb dX7_keeps_41 (by decide) ?_
        refine lv_goto (tgt := 134) hx hb dX7_keeps_42 (by decide) ?_
        exact GoI.end hx hb hr hlocks dX7_keeps_134 rfl h
      · have h := br_F h c_34
        refine lv_iconst (v := 1) hx hb dX7_keeps_37 (by decide) ?_
        refine lv_goto (tgt := 134) hx hb dX7_keeps_38 (by decide) ?_
        exact GoI.end hx hb hr hlocks dX7_keeps_134 rfl h

def rmX7_isGood : Room := { frames := 2, cells := 0, slots := 0, locals := 43 }

theorem in_wsX7_isGood_X7 : ∀ w ∈ u_ws RX7 TX7 24, w ∈ wsX7_isGood := by decide +kernel

set_option maxHeartbeats 4000000 in
set_option maxRecDepth 100000 in
theorem wX7_isGood_229 {p : Program} {l : Launch} {e : Env} {s : State} {m : MethodId} {args : Array Value} {below : List Frame} {meth : Method} {c : Code} {G : GT} {q : Nat → Nat} {C : St} {out : Int32} (bx : BX p RX7 wsX7_isGood cX7_isGood 6 (some .boolean) s m args meth c) (hP : va_P G.1 vwCl (MW G q C) s.heap) (hK : CK G s) {k194 : St → Int32 → Int32 → Int32 → Option (Int32)} (hk194 : ∀ (x1 : Int32) (x2 : Int32) (x3 : Int32), k194 C x1 x2 x3 = some out → ∀ (ls : Array Slot), lv_has ls 6 [(0, .ref (q 0)), (1, .int x1), (2, .int x2), (3, .int x3)] → GoI p l e rmX7_isGood s m args below meth c out (F0 m 194 ls [])) (x1 : Int32) (x3 : Int32) (t0 : Int32) (h : pX7_isGood_229 k194 C x1 x3 t0 = some out) (ls : Array Slot) (hl : lv_has ls 6 [(0, .ref (q 0)), (1, .int x1), (3, .int x3)]) : GoI p l e rmX7_isGood s m args below meth c out (F0 m 229 ls [.int t0]) := by
  obtain ⟨hx, hb, hr, hts, hown, hml, hlocks⟩ := id bx
  unfold pX7_isGood_229 at h
  refine lv_istore_n (lv' := [(2, .int t0), (0, .ref (q 0)), (1, .int x1), (3, .int x3)]) hx hb dX7_isGood_229 rfl hl (by decide) rfl (fun ls hl => ?_)
  obtain ⟨v_2, ev_2, h⟩ := ltv_ex h
  refine lv_iinc (v := v_2) (lv' := [(3, .int v_2), (2, .int t0), (0, .ref (q 0)), (1, .int x1)]) hx hb dX7_isGood_230 hl (k := 3) rfl (by rw [ev_2]; rfl) (by decide) rfl (fun ls hl => ?_)
  refine lv_goto (tgt := 194) hx hb dX7_isGood_233 (by decide) ?_
  exact hk194 x1 t0 v_2 h _ (lv_sub hl [2, 3, 1, 0] rfl)

set_option maxHeartbeats 4000000 in
set_option maxRecDepth 100000 in
theorem wX7_isGood_224 {p : Program} {l : Launch} {e : Env} {s : State} {m : MethodId} {args : Array Value} {below : List Frame} {meth : Method} {c : Code} {G : GT} {q : Nat → Nat} {C : St} {out : Int32} (bx : BX p RX7 wsX7_isGood cX7_isGood 6 (some .boolean) s m args meth c) (hP : va_P G.1 vwCl (MW G q C) s.heap) (hK : CK G s) {k194 : St → Int32 → Int32 → Int32 → Option (Int32)} (hk194 : ∀ (x1 : Int32) (x2 : Int32) (x3 : Int32), k194 C x1 x2 x3 = some out → ∀ (ls : Array Slot), lv_has ls 6 [(0, .ref (q 0)), (1, .int x1), (2, .int x2), (3, .int x3)] → GoI p l e rmX7_isGood s m args below meth c out (F0 m 194 ls [])) (x1 : Int32) (x3 : Int32) (h : pX7_isGood_224 k194 C x1 x3 = some out) (ls : Array Slot) (hl : lv_has ls 6 [(0, .ref (q 0)), (1, .int x1), (3, .int x3)]) : GoI p l e rmX7_isGood s m args below meth c out (F0 m 224 ls []) := by
  obtain ⟨hx, hb, hr, hts, hown, hml, hlocks⟩ := id bx
  unfold pX7_isGood_224 at h
  refine lv_iconst (v := 1) hx hb dX7_isGood_224 (by decide) ?_
  refine lv_goto (tgt := 229) hx hb dX7_isGood_225 (by decide) ?_
  exact wX7_isGood_229 bx hP hK hk194 x1 x3 1 h _ (lv_sub hl [0, 1, 2] rfl)

set_option maxHeartbeats 4000000 in
set_option maxRecDepth 100000 in
theorem wX7_isGood_194_b {p : Program} {l : Launch} {e : Env} {s : State} {m : MethodId} {args : Array Value} {below : List Frame} {meth : Method} {c : Code} {G : GT} {q : Nat → Nat} {C : St} {out : Int32} (bx : BX p RX7 wsX7_isGood cX7_isGood 6 (some .boolean) s m args meth c) (hP : va_P G.1 vwCl (MW G q C) s.heap) (hK : CK G s) {k194 : St → Int32 → Int32 → Int32 → Option (Int32)} (hk194 : ∀ (x1 : Int32) (x2 : Int32) (x3 : Int32), k194 C x1 x2 x3 = some out → ∀ (ls : Array Slot), lv_has ls 6 [(0, .ref (q 0)), (1, .int x1), (2, .int x2), (3, .int x3)] → GoI p l e rmX7_isGood s m args below meth c out (F0 m 194 ls [])) (x1 : Int32) (x2 : Int32) (x3 : Int32) (h : pX7_isGood_194_b k194 C x1 x2 x3 = some out) (ls : Array Slot) (hl : lv_has ls 6 [(0, .ref (q 0)), (1, .int x1), (2, .int x2), (3, .int x3)]) : GoI p l e rmX7_isGood s m args below meth c out (F0 m 194 ls []) := by
  obtain ⟨hx, hb, hr, hts, hown, hml, hlocks⟩ := id bx
  unfold pX7_isGood_194_b at h
  refine lv_iload_n hx hb dX7_isGood_194 rfl (lv_at hl 3 rfl) ?_
  refine lv_aload_n hx hb dX7_isGood_195 rfl (lv_at hl 0 rfl) ?_
  refine va_get (D := G.1) (ci := 8) (v := .int (C.1 1)) (C := RX7) (T := TX7) (N := 24) hx hb hts in_wsX7_isGood_X7 hown hK.1 hP 0 rfl rfl 17 (by decide) (w_mem hts 6 rfl) (fun _ h9 => h9) rfl dX7_isGood_196 ?_
  refine lv_icmp_ge (tgt := 236) hx hb dX7_isGood_199 (by decide) (fun c_199 => ?_) (fun c_199 => ?_)
  · have h := br_T h c_199
    refine lv_iload_n hx hb dX7_isGood_236 rfl (lv_at hl 2 rfl) ?_
    obtain ⟨g237, h⟩ := gd_ex h
    exact GoI.end hx hb hr hlocks dX7_isGood_237 (okZ_n g237) h
  · have h := br_F h c_199
    refine lv_iload_n hx hb dX7_isGood_202 rfl (lv_at hl 2 rfl) ?_
    refine lv_if_eq (tgt := 236) hx hb dX7_isGood_203 (by decide) (fun c_203 => ?_) (fun c_203 => ?_)
    · have h := br_T h c_203
      refine lv_iload_n hx hb dX7_isGood_236 rfl (lv_at hl 2 rfl) ?_
      obtain ⟨g237, h⟩ := gd_ex h
      exact GoI.end hx hb hr hlocks dX7_isGood_237 (okZ_n g237) h
    · have h := br_F h c_203
      refine lv_aload_n hx hb dX7_isGood_206 rfl (lv_at hl 0 rfl) ?_
      refine va_get (D := G.1) (ci := 8) (v := .ref (q 6)) (C := RX7) (T := TX7) (N := 24) hx hb hts in_wsX7_isGood_X7 hown hK.1 hP 0 rfl rfl 5 (by decide) (w_mem hts 7 rfl) (fun _ h9 => h9) rfl dX7_isGood_207 ?_
      refine lv_iload_n hx hb dX7_isGood_210 rfl (lv_at hl 3 rfl) ?_
      obtain ⟨g211, h⟩ := gd_ex h
      refine va_zald (D := G.1) hx hb hK.1 hP 6 2 rfl rfl g211 dX7_isGood_211 ?_
      refine lv_if_ne (tgt := 224) hx hb dX7_isGood_212 (by decide) (fun c_212 => ?_) (fun c_212 => ?_)
      · have h := br_F h c_212
        exact wX7_isGood_224 bx hP hK hk194 x1 x3 h _ (lv_sub hl [0, 1, 3] rfl)
      · have h := br_T h c_212
        refine lv_aload_n hx hb dX7_isGood_215 rfl (lv_at hl 0 rfl) ?_
        refine lv_iload_n hx hb dX7_isGood_216 rfl (lv_at hl 3 rfl) ?_
        refine lv_iload_n hx hb dX7_isGood_217 rfl (lv_at hl 1 rfl) ?_
        obtain ⟨r_3, hr_3, h⟩ := bd_ex h
        refine ro_i (va_runV (As := [.int x3, .int x1]) (rest := []) ⟨hx, hb, hml, hown, hts⟩ (kX7_keeps l G q C x3 x1 r_3 hr_3) (cwV 2 hts gX7_isGood_X7_keeps rfl rfl rfl (by decide +kernel) ⟨Nat.le_of_ble_eq_true rfl, Nat.le_of_ble_eq_true rfl⟩) (roV hP hK 8 0 rfl rfl) rfl rfl hl.1 rfl (lv_room (Nat.le_of_ble_eq_true rfl)) dX7_isGood_218 ⟨Nat.zero_le _, Nat.zero_le _⟩) ?_
        refine lv_if_eq (tgt := 228) hx hb dX7_isGood_221 (by decide) (fun c_221 => ?_) (fun c_221 => ?_)
        · have h := br_T h c_221
          refine lv_iconst (v := 0) hx hb dX7_isGood_228 (by decide) ?_
          exact wX7_isGood_229 bx hP hK hk194 x1 x3 0 h _ (lv_sub hl [0, 1, 3] rfl)
        · have h := br_F h c_221
          exact wX7_isGood_224 bx hP hK hk194 x1 x3 h _ (lv_sub hl [0, 1, 3] rfl)

theorem wX7_isGood_194 {p : Program} {l : Launch} {e : Env} {s : State} {m : MethodId} {args : Array Value} {below : List Frame} {meth : Method} {c : Code} {G : GT} {q : Nat → Nat} {C : St} {out : Int32} (bx : BX p RX7 wsX7_isGood cX7_isGood 6 (some .boolean) s m args meth c) (hP : va_P G.1 vwCl (MW G q C) s.heap) (hK : CK G s) :
    ∀ (n : Nat) (x1 : Int32) (x2 : Int32) (x3 : Int32), pX7_isGood_194 n C x1 x2 x3 = some out → ∀ (ls : Array Slot), lv_has ls 6 [(0, .ref (q 0)), (1, .int x1), (2, .int x2), (3, .int x3)] → GoI p l e rmX7_isGood s m args below meth c out (F0 m 194 ls []) := by
  intro n
  induction n with
  | zero => intro _ _ _ h; cases h
  | succ n ih => exact fun a0 a1 a2 h ls hl => wX7_isGood_194_b bx hP hK ih a0 a1 a2 h ls hl

set_option maxHeartbeats 4000000 in
set_option maxRecDepth 100000 in
theorem wX7_isGood_192 {p : Program} {l : Launch} {e : Env} {s : State} {m : MethodId} {args : Array Value} {below : List Frame} {meth : Method} {c : Code} {G : GT} {q : Nat → Nat} {C : St} {out : Int32} (bx : BX p RX7 wsX7_isGood cX7_isGood 6 (some .boolean) s m args meth c) (hP : va_P G.1 vwCl (MW G q C) s.heap) (hK : CK G s) (x1 : Int32) (x2 : Int32) (h : pX7_isGood_192 C x1 x2 = some out) (ls : Array Slot) (hl : lv_has ls 6 [(0, .ref (q 0)), (1, .int x1), (2, .int x2)]) : GoI p l e rmX7_isGood s m args below meth c out (F0 m 192 ls []) := by
  obtain ⟨hx, hb, hr, hts, hown, hml, hlocks⟩ := id bx
  unfold pX7_isGood_192 at h
  refine lv_iconst (v := 0) hx hb dX7_isGood_192 (by decide) ?_
  refine lv_istore_n (lv' := [(3, .int 0), (0, .ref (q 0)), (1, .int x1), (2, .int x2)]) hx hb dX7_isGood_193 rfl hl (by decide) rfl (fun ls hl => ?_)
  exact wX7_isGood_194 bx hP hK FU x1 x2 0 h _ (lv_sub hl [1, 2, 3, 0] rfl)

set_option maxHeartbeats 4000000 in
set_option maxRecDepth 100000 in
theorem wX7_isGood_184 {p : Program} {l : Launch} {e : Env} {s : State} {m : MethodId} {args : Array Value} {below : List Frame} {meth : Method} {c : Code} {G : GT} {q : Nat → Nat} {C : St} {out : Int32} (bx : BX p RX7 wsX7_isGood cX7_isGood 6 (some .boolean) s m args meth c) (hP : va_P G.1 vwCl (MW G q C) s.heap) (hK : CK G s) {k8 : St → Int32 → Int32 → Int32 → Option (Int32)} (hk8 : ∀ (x1 : Int32) (x2 : Int32) (x3 : Int32), k8 C x1 x2 x3 = some out → ∀ (ls : Array Slot), lv_has ls 6 [(0, .ref (q 0)), (1, .int x1), (2, .int x2), (3, .int x3)] → GoI p l e rmX7_isGood s m args below meth c out (F0 m 8 ls [])) (x1 : Int32) (x3 : Int32) (t0 : Int32) (t1 : Int32) (h : pX7_isGood_184 k8 C x1 x3 t0 t1 = some out) (ls : Array Slot) (hl : lv_has ls 6 [(0, .ref (q 0)), (1, .int x1), (3, .int x3)]) : GoI p l e rmX7_isGood s m args below meth c out (F0 m 184 ls [.int t1, .int t0]) := by
  obtain ⟨hx, hb, hr, hts, hown, hml, hlocks⟩ := id bx
  unfold pX7_isGood_184 at h
  refine lv_iand hx hb dX7_isGood_184 ?_
  refine lv_topi (fun v_7 ev_7 => ?_)
  have h := ltv_at h v_7 ev_7
  refine lv_istore_n (lv' := [(2, .int v_7), (0, .ref (q 0)), (1, .int x1), (3, .int x3)]) hx hb dX7_isGood_185 rfl hl (by decide) rfl (fun ls hl => ?_)
  obtain ⟨v_8, ev_8, h⟩ := ltv_ex h
  refine lv_iinc (v := v_8) (lv' := [(3, .int v_8), (2, .int v_7), (0, .ref (q 0)), (1, .int x1)]) hx hb dX7_isGood_186 hl (k := 3) rfl (by rw [ev_8]; rfl) (by decide) rfl (fun ls hl => ?_)
  refine lv_goto (tgt := 8) hx hb dX7_isGood_189 (by decide) ?_
  exact hk8 x1 v_7 v_8 h _ (lv_sub hl [2, 3, 1, 0] rfl)

set_option maxHeartbeats 4000000 in
set_option maxRecDepth 100000 in
theorem wX7_isGood_179 {p : Program} {l : Launch} {e : Env} {s : State} {m : MethodId} {args : Array Value} {below : List Frame} {meth : Method} {c : Code} {G : GT} {q : Nat → Nat} {C : St} {out : Int32} (bx : BX p RX7 wsX7_isGood cX7_isGood 6 (some .boolean) s m args meth c) (hP : va_P G.1 vwCl (MW G q C) s.heap) (hK : CK G s) {k8 : St → Int32 → Int32 → Int32 → Option (Int32)} (hk8 : ∀ (x1 : Int32) (x2 : Int32) (x3 : Int32), k8 C x1 x2 x3 = some out → ∀ (ls : Array Slot), lv_has ls 6 [(0, .ref (q 0)), (1, .int x1), (2, .int x2), (3, .int x3)] → GoI p l e rmX7_isGood s m args below meth c out (F0 m 8 ls [])) (x1 : Int32) (x3 : Int32) (t0 : Int32) (h : pX7_isGood_179 k8 C x1 x3 t0 = some out) (ls : Array Slot) (hl : lv_has ls 6 [(0, .ref (q 0)), (1, .int x1), (3, .int x3)]) : GoI p l e rmX7_isGood s m args below meth c out (F0 m 179 ls [.int t0]) := by
  obtain ⟨hx, hb, hr, hts, hown, hml, hlocks⟩ := id bx
  unfold pX7_isGood_179 at h
  refine lv_iconst (v := 1) hx hb dX7_isGood_179 (by decide) ?_
  refine lv_goto (tgt := 184) hx hb dX7_isGood_180 (by decide) ?_
  exact wX7_isGood_184 bx hP hK hk8 x1 x3 t0 1 h _ (lv_sub hl [0, 1, 2] rfl)

set_option maxHeartbeats 4000000 in
set_option maxRecDepth 100000 in
theorem wX7_isGood_148 {p : Program} {l : Launch} {e : Env} {s : State} {m : MethodId} {args : Array Value} {below : List Frame} {meth : Method} {c : Code} {G : GT} {q : Nat → Nat} {C : St} {out : Int32} (bx : BX p RX7 wsX7_isGood cX7_isGood 6 (some .boolean) s m args meth c) (hP : va_P G.1 vwCl (MW G q C) s.heap) (hK : CK G s) {k8 : St → Int32 → Int32 → Int32 → Option (Int32)} (hk8 : ∀ (x1 : Int32) (x2 : Int32) (x3 : Int32), k8 C x1 x2 x3 = some out → ∀ (ls : Array Slot), lv_has ls 6 [(0, .ref (q 0)), (1, .int x1), (2, .int x2), (3, .int x3)] → GoI p l e rmX7_isGood s m args below meth c out (F0 m 8 ls [])) (x1 : Int32) (x3 : Int32) (x4 : Int32) (t0 : Int32) (t1 : Int32) (h : pX7_isGood_148 k8 C x1 x3 x4 t0 t1 = some out) (ls : Array Slot) (hl : lv_has ls 6 [(0, .ref (q 0)), (1, .int x1), (3, .int x3), (4, .int x4)]) : GoI p l e rmX7_isGood s m args below meth c out (F0 m 148 ls [.int t1, .int t0]) := by
  obtain ⟨hx, hb, hr, hts, hown, hml, hlocks⟩ := id bx
  unfold pX7_isGood_148 at h
  refine lv_iand hx hb dX7_isGood_148 ?_
  refine lv_topi (fun v_5 ev_5 => ?_)
  have h := ltv_at h v_5 ev_5
  refine lv_istore_n (lv' := [(2, .int v_5), (0, .ref (q 0)), (1, .int x1), (3, .int x3), (4, .int x4)]) hx hb dX7_isGood_149 rfl hl (by decide) rfl (fun ls hl => ?_)
  refine lv_iload_n hx hb dX7_isGood_150 rfl (lv_at hl 0 rfl) ?_
  refine lv_iload_n hx hb dX7_isGood_151 rfl (lv_at hl 2 rfl) ?_
  refine lv_iload_n hx hb dX7_isGood_152 rfl (lv_at hl 3 rfl) ?_
  obtain ⟨r_6, hr_6, h⟩ := bd_ex h
  refine ro_i (va_runS (As := [.int x1, .int x3]) (rest := [.int v_5]) ⟨hx, hb, hml, hown, hts⟩ (kX7_has l G q C x1 x3 r_6 hr_6) (va_cwS 2 hts gX7_isGood_X7_has rfl rfl rfl (by decide +kernel) ⟨Nat.le_of_ble_eq_true rfl, Nat.le_of_ble_eq_true rfl⟩) (roS hP hK) rfl rfl hl.1 rfl (lv_room (Nat.le_of_ble_eq_true rfl)) dX7_isGood_153 ⟨Nat.zero_le _, Nat.zero_le _⟩) ?_
  refine lv_if_eq (tgt := 179) hx hb dX7_isGood_156 (by decide) (fun c_156 => ?_) (fun c_156 => ?_)
  · have h := br_T h c_156
    exact wX7_isGood_179 bx hP hK hk8 x1 x3 v_5 h _ (lv_sub hl [1, 2, 3] rfl)
  · have h := br_F h c_156
    refine lv_iload hx hb dX7_isGood_159 (lv_at hl 4 rfl) ?_
    refine lv_aload_n hx hb dX7_isGood_161 rfl (lv_at hl 1 rfl) ?_
    refine va_get (D := G.1) (ci := 8) (v := .ref (q 3)) (C := RX7) (T := TX7) (N := 24) hx hb hts in_wsX7_isGood_X7 hown hK.1 hP 0 rfl rfl 2 (by decide) (w_mem hts 4 rfl) (fun _ h9 => h9) rfl dX7_isGood_162 ?_
    refine lv_iload_n hx hb dX7_isGood_165 rfl (lv_at hl 3 rfl) ?_
    obtain ⟨g166, h⟩ := gd_ex h
    refine va_iald (D := G.1) hx hb hK.1 hP 3 0 rfl rfl g166 dX7_isGood_166 ?_
    refine lv_aload_n hx hb dX7_isGood_167 rfl (lv_at hl 1 rfl) ?_
    refine va_get (D := G.1) (ci := 8) (v := .ref (q 4)) (C := RX7) (T := TX7) (N := 24) hx hb hts in_wsX7_isGood_X7 hown hK.1 hP 0 rfl rfl 3 (by decide) (w_mem hts 5 rfl) (fun _ h9 => h9) rfl dX7_isGood_168 ?_
    refine lv_iload_n hx hb dX7_isGood_171 rfl (lv_at hl 3 rfl) ?_
    obtain ⟨g172, h⟩ := gd_ex h
    refine va_iald (D := G.1) hx hb hK.1 hP 4 0 rfl rfl g172 dX7_isGood_172 ?_
    obtain ⟨r_9, hr_9, h⟩ := bd_ex h
    refine ro_i (va_runS (As := [.int x4, .int (C.2 2 x3.toNatClampNeg), .int (C.2 3 x3.toNatClampNeg)]) (rest := [.int v_5]) ⟨hx, hb, hml, hown, hts⟩ (kX7_isIn l G q C x4 (C.2 2 x3.toNatClampNeg) (C.2 3 x3.toNatClampNeg) r_9 hr_9) (va_cwS 3 hts gX7_isGood_X7_isIn rfl rfl rfl (by decide +kernel) ⟨Nat.le_of_ble_eq_true rfl, Nat.le_of_ble_eq_true rfl⟩) (roS hP hK) rfl rfl hl.1 rfl (lv_room (Nat.le_of_ble_eq_true rfl)) dX7_isGood_173 ⟨Nat.zero_le _, Nat.zero_le _⟩) ?_
    refine lv_if_eq (tgt := 183) hx hb dX7_isGood_176 (by decide) (fun c_176 => ?_) (fun c_176 => ?_)
    · have h := br_T h c_176
      refine lv_iconst (v := 0) hx hb dX7_isGood_183 (by decide) ?_
      exact wX7_isGood_184 bx hP hK hk8 x1 x3 v_5 0 h _ (lv_sub hl [1, 2, 3] rfl)
    · have h := br_F h c_176
      exact wX7_isGood_179 bx hP hK hk8 x1 x3 v_5 h _ (lv_sub hl [1, 2, 3] rfl)

set_option maxHeartbeats 4000000 in
set_option maxRecDepth 100000 in
theorem wX7_isGood_143 {p : Program} {l : Launch} {e : Env} {s : State} {m : MethodId} {args : Array Value} {below : List Frame} {meth : Method} {c : Code} {G : GT} {q : Nat → Nat} {C : St} {out : Int32} (bx : BX p RX7 wsX7_isGood cX7_isGood 6 (some .boolean) s m args meth c) (hP : va_P G.1 vwCl (MW G q C) s.heap) (hK : CK G s) {k8 : St → Int32 → Int32 → Int32 → Option (Int32)} (hk8 : ∀ (x1 : Int32) (x2 : Int32) (x3 : Int32), k8 C x1 x2 x3 = some out → ∀ (ls : Array Slot), lv_has ls 6 [(0, .ref (q 0)), (1, .int x1), (2, .int x2), (3, .int x3)] → GoI p l e rmX7_isGood s m args below meth c out (F0 m 8 ls [])) (x1 : Int32) (x3 : Int32) (x4 : Int32) (t0 : Int32) (h : pX7_isGood_143 k8 C x1 x3 x4 t0 = some out) (ls : Array Slot) (hl : lv_has ls 6 [(0, .ref (q 0)), (1, .int x1), (3, .int x3), (4, .int x4)]) : GoI p l e rmX7_isGood s m args below meth c out (F0 m 143 ls [.int t0]) := by
  obtain ⟨hx, hb, hr, hts, hown, hml, hlocks⟩ := id bx
  unfold pX7_isGood_143 at h
  refine lv_iconst (v := 1) hx hb dX7_isGood_143 (by decide) ?_
  refine lv_goto (tgt := 148) hx hb dX7_isGood_144 (by decide) ?_
  exact wX7_isGood_148 bx hP hK hk8 x1 x3 x4 t0 1 h _ (lv_sub hl [0, 1, 2, 3] rfl)

set_option maxHeartbeats 4000000 in
set_option maxRecDepth 100000 in
theorem wX7_isGood_109 {p : Program} {l : Launch} {e : Env} {s : State} {m : MethodId} {args : Array Value} {below : List Frame} {meth : Method} {c : Code} {G : GT} {q : Nat → Nat} {C : St} {out : Int32} (bx : BX p RX7 wsX7_isGood cX7_isGood 6 (some .boolean) s m args meth c) (hP : va_P G.1 vwCl (MW G q C) s.heap) (hK : CK G s) {k26 : St → Int32 → Int32 → Int32 → Int32 → Int32 → Option (Int32)} (hk26 : ∀ (x1 : Int32) (x2 : Int32) (x3 : Int32) (x4 : Int32) (x5 : Int32), k26 C x1 x2 x3 x4 x5 = some out → ∀ (ls : Array Slot), lv_has ls 6 [(0, .ref (q 0)), (1, .int x1), (2, .int x2), (3, .int x3), (4, .int x4), (5, .int x5)] → GoI p l e rmX7_isGood s m args below meth c out (F0 m 26 ls [])) (x1 : Int32) (x3 : Int32) (x4 : Int32) (x5 : Int32) (t0 : Int32) (t1 : Int32) (h : pX7_isGood_109 k26 C x1 x3 x4 x5 t0 t1 = some out) (ls : Array Slot) (hl : lv_has ls 6 [(0, .ref (q 0)), (1, .int x1), (3, .int x3), (4, .int x4), (5, .int x5)]) : GoI p l e rmX7_isGood s m args below meth c out (F0 m 109 ls [.int t1, .int t0]) := by
  obtain ⟨hx, hb, hr, hts, hown, hml, hlocks⟩ := id bx
  unfold pX7_isGood_109 at h
  refine lv_iand hx hb dX7_isGood_109 ?_
  refine lv_topi (fun v_12 ev_12 => ?_)
  have h := ltv_at h v_12 ev_12
  refine lv_istore_n (lv' := [(2, .int v_12), (0, .ref (q 0)), (1, .int x1), (3, .int x3), (4, .int x4), (5, .int x5)]) hx hb dX7_isGood_110 rfl hl (by decide) rfl (fun ls hl => ?_)
  obtain ⟨v_13, ev_13, h⟩ := ltv_ex h
  refine lv_iinc (v := v_13) (lv' := [(5, .int v_13), (2, .int v_12), (0, .ref (q 0)), (1, .int x1), (3, .int x3), (4, .int x4)]) hx hb dX7_isGood_111 hl (k := 5) rfl (by rw [ev_13]; rfl) (by decide) rfl (fun ls hl => ?_)
  refine lv_goto (tgt := 26) hx hb dX7_isGood_114 (by decide) ?_
  exact hk26 x1 v_12 x3 x4 v_13 h _ (lv_sub hl [2, 3, 1, 4, 5, 0] rfl)

set_option maxHeartbeats 4000000 in
set_option maxRecDepth 100000 in
theorem wX7_isGood_104 {p : Program} {l : Launch} {e : Env} {s : State} {m : MethodId} {args : Array Value} {below : List Frame} {meth : Method} {c : Code} {G : GT} {q : Nat → Nat} {C : St} {out : Int32} (bx : BX p RX7 wsX7_isGood cX7_isGood 6 (some .boolean) s m args meth c) (hP : va_P G.1 vwCl (MW G q C) s.heap) (hK : CK G s) {k26 : St → Int32 → Int32 → Int32 → Int32 → Int32 → Option (Int32)} (hk26 : ∀ (x1 : Int32) (x2 : Int32) (x3 : Int32) (x4 : Int32) (x5 : Int32), k26 C x1 x2 x3 x4 x5 = some out → ∀ (ls : Array Slot), lv_has ls 6 [(0, .ref (q 0)), (1, .int x1), (2, .int x2), (3, .int x3), (4, .int x4), (5, .int x5)] → GoI p l e rmX7_isGood s m args below meth c out (F0 m 26 ls [])) (x1 : Int32) (x3 : Int32) (x4 : Int32) (x5 : Int32) (t0 : Int32) (h : pX7_isGood_104 k26 C x1 x3 x4 x5 t0 = some out) (ls : Array Slot) (hl : lv_has ls 6 [(0, .ref (q 0)), (1, .int x1), (3, .int x3), (4, .int x4), (5, .int x5)]) : GoI p l e rmX7_isGood s m args below meth c out (F0 m 104 ls [.int t0]) := by
  obtain ⟨hx, hb, hr, hts, hown, hml, hlocks⟩ := id bx
  unfold pX7_isGood_104 at h
  refine lv_iconst (v := 1) hx hb dX7_isGood_104 (by decide) ?_
  refine lv_goto (tgt := 109) hx hb dX7_isGood_105 (by decide) ?_
  exact wX7_isGood_109 bx hP hK hk26 x1 x3 x4 x5 t0 1 h _ (lv_sub hl [0, 1, 2, 3, 4] rfl)

set_option maxHeartbeats 4000000 in
set_option maxRecDepth 100000 in
theorem wX7_isGood_62 {p : Program} {l : Launch} {e : Env} {s : State} {m : MethodId} {args : Array Value} {below : List Frame} {meth : Method} {c : Code} {G : GT} {q : Nat → Nat} {C : St} {out : Int32} (bx : BX p RX7 wsX7_isGood cX7_isGood 6 (some .boolean) s m args meth c) (hP : va_P G.1 vwCl (MW G q C) s.heap) (hK : CK G s) {k26 : St → Int32 → Int32 → Int32 → Int32 → Int32 → Option (Int32)} (hk26 : ∀ (x1 : Int32) (x2 : Int32) (x3 : Int32) (x4 : Int32) (x5 : Int32), k26 C x1 x2 x3 x4 x5 = some out → ∀ (ls : Array Slot), lv_has ls 6 [(0, .ref (q 0)), (1, .int x1), (2, .int x2), (3, .int x3), (4, .int x4), (5, .int x5)] → GoI p l e rmX7_isGood s m args below meth c out (F0 m 26 ls [])) (x1 : Int32) (x2 : Int32) (x3 : Int32) (x5 : Int32) (t0 : Int32) (t1 : Int32) (h : pX7_isGood_62 k26 C x1 x2 x3 x5 t0 t1 = some out) (ls : Array Slot) (hl : lv_has ls 6 [(0, .ref (q 0)), (1, .int x1), (2, .int x2), (3, .int x3), (5, .int x5)]) : GoI p l e rmX7_isGood s m args below meth c out (F0 m 62 ls [.int t1, .int t0]) := by
  obtain ⟨hx, hb, hr, hts, hown, hml, hlocks⟩ := id bx
  unfold pX7_isGood_62 at h
  refine lv_iadd hx hb dX7_isGood_62 ?_
  refine lv_topi (fun v_11 ev_11 => ?_)
  have h := ltv_at h v_11 ev_11
  refine lv_istore (lv' := [(4, .int v_11), (0, .ref (q 0)), (1, .int x1), (2, .int x2), (3, .int x3), (5, .int x5)]) hx hb dX7_isGood_63 hl (by decide) rfl (fun ls hl => ?_)
  refine lv_iload_n hx hb dX7_isGood_65 rfl (lv_at hl 3 rfl) ?_
  refine lv_aload_n hx hb dX7_isGood_66 rfl (lv_at hl 1 rfl) ?_
  refine va_get (D := G.1) (ci := 8) (v := .ref (q 1)) (C := RX7) (T := TX7) (N := 24) hx hb hts in_wsX7_isGood_X7 hown hK.1 hP 0 rfl rfl 0 (by decide) (w_mem hts 2 rfl) (fun _ h9 => h9) rfl dX7_isGood_67 ?_
  refine lv_iload hx hb dX7_isGood_70 (lv_at hl 5 rfl) ?_
  obtain ⟨g72, h⟩ := gd_ex h
  refine va_iald (D := G.1) hx hb hK.1 hP 1 0 rfl rfl g72 dX7_isGood_72 ?_
  refine lv_iload_n hx hb dX7_isGood_73 rfl (lv_at hl 4 rfl) ?_
  refine lv_icmp_ne (tgt := 104) hx hb dX7_isGood_74 (by decide) (fun c_74 => ?_) (fun c_74 => ?_)
  · have h := br_F h c_74
    exact wX7_isGood_104 bx hP hK hk26 x1 x3 v_11 x5 x2 h _ (lv_sub hl [1, 2, 4, 0, 5] rfl)
  · have h := br_T h c_74
    refine lv_aload_n hx hb dX7_isGood_77 rfl (lv_at hl 1 rfl) ?_
    refine va_get (D := G.1) (ci := 8) (v := .ref (q 5)) (C := RX7) (T := TX7) (N := 24) hx hb hts in_wsX7_isGood_X7 hown hK.1 hP 0 rfl rfl 4 (by decide) (w_mem hts 3 rfl) (fun _ h9 => h9) rfl dX7_isGood_78 ?_
    refine lv_iload hx hb dX7_isGood_81 (lv_at hl 5 rfl) ?_
    obtain ⟨g83, h⟩ := gd_ex h
    refine va_zald (D := G.1) hx hb hK.1 hP 5 2 rfl rfl g83 dX7_isGood_83 ?_
    refine lv_if_eq (tgt := 104) hx hb dX7_isGood_84 (by decide) (fun c_84 => ?_) (fun c_84 => ?_)
    · have h := br_T h c_84
      exact wX7_isGood_104 bx hP hK hk26 x1 x3 v_11 x5 x2 h _ (lv_sub hl [1, 2, 4, 0, 5] rfl)
    · have h := br_F h c_84
      refine lv_iload_n hx hb dX7_isGood_87 rfl (lv_at hl 2 rfl) ?_
      refine lv_iload_n hx hb dX7_isGood_88 rfl (lv_at hl 4 rfl) ?_
      obtain ⟨r_14, hr_14, h⟩ := bd_ex h
      refine ro_i (va_runS (As := [.int x1, .int x3]) (rest := [.int x2]) ⟨hx, hb, hml, hown, hts⟩ (kX7_has l G q C x1 x3 r_14 hr_14) (va_cwS 2 hts gX7_isGood_X7_has rfl rfl rfl (by decide +kernel) ⟨Nat.le_of_ble_eq_true rfl, Nat.le_of_ble_eq_true rfl⟩) (roS hP hK) rfl rfl hl.1 rfl (lv_room (Nat.le_of_ble_eq_true rfl)) dX7_isGood_89 ⟨Nat.zero_le _, Nat.zero_le _⟩) ?_
      refine lv_if_eq (tgt := 104) hx hb dX7_isGood_92 (by decide) (fun c_92 => ?_) (fun c_92 => ?_)
      · have h := br_T h c_92
        exact wX7_isGood_104 bx hP hK hk26 x1 x3 v_11 x5 x2 h _ (lv_sub hl [1, 2, 4, 0, 5] rfl)
      · have h := br_F h c_92
        refine lv_iload_n hx hb dX7_isGood_95 rfl (lv_at hl 2 rfl) ?_
        refine lv_iload hx hb dX7_isGood_96 (lv_at hl 5 rfl) ?_
        obtain ⟨r_15, hr_15, h⟩ := bd_ex h
        refine ro_i (va_runS (As := [.int x1, .int x5]) (rest := [.int x2]) ⟨hx, hb, hml, hown, hts⟩ (kX7_has l G q C x1 x5 r_15 hr_15) (va_cwS 2 hts gX7_isGood_X7_has rfl rfl rfl (by decide +kernel) ⟨Nat.le_of_ble_eq_true rfl, Nat.le_of_ble_eq_true rfl⟩) (roS hP hK) rfl rfl hl.1 rfl (lv_room (Nat.le_of_ble_eq_true rfl)) dX7_isGood_98 ⟨Nat.zero_le _, Nat.zero_le _⟩) ?_
        refine lv_if_eq (tgt := 108) hx hb dX7_isGood_101 (by decide) (fun c_101 => ?_) (fun c_101 => ?_)
        · have h := br_T h c_101
          refine lv_iconst (v := 0) hx hb dX7_isGood_108 (by decide) ?_
          exact wX7_isGood_109 bx hP hK hk26 x1 x3 v_11 x5 x2 0 h _ (lv_sub hl [1, 2, 4, 0, 5] rfl)
        · have h := br_F h c_101
          exact wX7_isGood_104 bx hP hK hk26 x1 x3 v_11 x5 x2 h _ (lv_sub hl [1, 2, 4, 0, 5] rfl)

set_option maxHeartbeats 4000000 in
set_option maxRecDepth 100000 in
theorem wX7_isGood_61 {p : Program} {l : Launch} {e : Env} {s : State} {m : MethodId} {args : Array Value} {below : List Frame} {meth : Method} {c : Code} {G : GT} {q : Nat → Nat} {C : St} {out : Int32} (bx : BX p RX7 wsX7_isGood cX7_isGood 6 (some .boolean) s m args meth c) (hP : va_P G.1 vwCl (MW G q C) s.heap) (hK : CK G s) {k26 : St → Int32 → Int32 → Int32 → Int32 → Int32 → Option (Int32)} (hk26 : ∀ (x1 : Int32) (x2 : Int32) (x3 : Int32) (x4 : Int32) (x5 : Int32), k26 C x1 x2 x3 x4 x5 = some out → ∀ (ls : Array Slot), lv_has ls 6 [(0, .ref (q 0)), (1, .int x1), (2, .int x2), (3, .int x3), (4, .int x4), (5, .int x5)] → GoI p l e rmX7_isGood s m args below meth c out (F0 m 26 ls [])) (x1 : Int32) (x2 : Int32) (x3 : Int32) (x5 : Int32) (t0 : Int32) (h : pX7_isGood_61 k26 C x1 x2 x3 x5 t0 = some out) (ls : Array Slot) (hl : lv_has ls 6 [(0, .ref (q 0)), (1, .int x1), (2, .int x2), (3, .int x3), (5, .int x5)]) : GoI p l e rmX7_isGood s m args below meth c out (F0 m 61 ls [.int t0]) := by
  obtain ⟨hx, hb, hr, hts, hown, hml, hlocks⟩ := id bx
  unfold pX7_isGood_61 at h
  refine lv_iconst (v := 0) hx hb dX7_isGood_61 (by decide) ?_
  exact wX7_isGood_62 bx hP hK hk26 x1 x2 x3 x5 t0 0 h _ (lv_sub hl [0, 1, 2, 3, 4] rfl)

set_option maxHeartbeats 4000000 in
set_option maxRecDepth 100000 in
theorem wX7_isGood_26_b {p : Program} {l : Launch} {e : Env} {s : State} {m : MethodId} {args : Array Value} {below : List Frame} {meth : Method} {c : Code} {G : GT} {q : Nat → Nat} {C : St} {out : Int32} (bx : BX p RX7 wsX7_isGood cX7_isGood 6 (some .boolean) s m args meth c) (hP : va_P G.1 vwCl (MW G q C) s.heap) (hK : CK G s) {k8 : St → Int32 → Int32 → Int32 → Option (Int32)} (hk8 : ∀ (x1 : Int32) (x2 : Int32) (x3 : Int32), k8 C x1 x2 x3 = some out → ∀ (ls : Array Slot), lv_has ls 6 [(0, .ref (q 0)), (1, .int x1), (2, .int x2), (3, .int x3)] → GoI p l e rmX7_isGood s m args below meth c out (F0 m 8 ls [])) {k26 : St → Int32 → Int32 → Int32 → Int32 → Int32 → Option (Int32)} (hk26 : ∀ (x1 : Int32) (x2 : Int32) (x3 : Int32) (x4 : Int32) (x5 : Int32), k26 C x1 x2 x3 x4 x5 = some out → ∀ (ls : Array Slot), lv_has ls 6 [(0, .ref (q 0)), (1, .int x1), (2, .int x2), (3, .int x3), (4, .int x4), (5, .int x5)] → GoI p l e rmX7_isGood s m args below meth c out (F0 m 26 ls [])) (x1 : Int32) (x2 : Int32) (x3 : Int32) (x4 : Int32) (x5 : Int32) (h : pX7_isGood_26_b k8 k26 C x1 x2 x3 x4 x5 = some out) (ls : Array Slot) (hl : lv_has ls 6 [(0, .ref (q 0)), (1, .int x1), (2, .int x2), (3, .int x3), (4, .int x4), (5, .int x5)]) : GoI p l e rmX7_isGood s m args below meth c out (F0 m 26 ls []) := by
  obtain ⟨hx, hb, hr, hts, hown, hml, hlocks⟩ := id bx
  unfold pX7_isGood_26_b at h
  refine lv_iload hx hb dX7_isGood_26 (lv_at hl 5 rfl) ?_
  refine lv_aload_n hx hb dX7_isGood_28 rfl (lv_at hl 0 rfl) ?_
  refine va_get (D := G.1) (ci := 8) (v := .int (C.1 0)) (C := RX7) (T := TX7) (N := 24) hx hb hts in_wsX7_isGood_X7 hown hK.1 hP 0 rfl rfl 16 (by decide) (w_mem hts 1 rfl) (fun _ h9 => h9) rfl dX7_isGood_29 ?_
  refine lv_icmp_ge (tgt := 117) hx hb dX7_isGood_32 (by decide) (fun c_32 => ?_) (fun c_32 => ?_)
  · have h := br_T h c_32
    refine lv_iload_n hx hb dX7_isGood_117 rfl (lv_at hl 2 rfl) ?_
    refine lv_iload_n hx hb dX7_isGood_118 rfl (lv_at hl 1 rfl) ?_
    refine lv_iload_n hx hb dX7_isGood_119 rfl (lv_at hl 3 rfl) ?_
    obtain ⟨r_4, hr_4, h⟩ := bd_ex h
    refine ro_i (va_runS (As := [.int x1, .int x3]) (rest := [.int x2]) ⟨hx, hb, hml, hown, hts⟩ (kX7_has l G q C x1 x3 r_4 hr_4) (va_cwS 2 hts gX7_isGood_X7_has rfl rfl rfl (by decide +kernel) ⟨Nat.le_of_ble_eq_true rfl, Nat.le_of_ble_eq_true rfl⟩) (roS hP hK) rfl rfl hl.1 rfl (lv_room (Nat.le_of_ble_eq_true rfl)) dX7_isGood_120 ⟨Nat.zero_le _, Nat.zero_le _⟩) ?_
    refine lv_if_eq (tgt := 143) hx hb dX7_isGood_123 (by decide) (fun c_123 => ?_) (fun c_123 => ?_)
    · have h := br_T h c_123
      exact wX7_isGood_143 bx hP hK hk8 x1 x3 x4 x2 h _ (lv_sub hl [0, 1, 3, 4] rfl)
    · have h := br_F h c_123
      refine lv_iload_n hx hb dX7_isGood_126 rfl (lv_at hl 3 rfl) ?_
      refine lv_if_eq (tgt := 143) hx hb dX7_isGood_127 (by decide) (fun c_127 => ?_) (fun c_127 => ?_)
      · have h := br_T h c_127
        exact wX7_isGood_143 bx hP hK hk8 x1 x3 x4 x2 h _ (lv_sub hl [0, 1, 3, 4] rfl)
      · have h := br_F h c_127
        refine lv_iload_n hx hb dX7_isGood_130 rfl (lv_at hl 1 rfl) ?_
        refine lv_aload_n hx hb dX7_isGood_131 rfl (lv_at hl 0 rfl) ?_
        refine va_get (D := G.1) (ci := 8) (v := .ref (q 1)) (C := RX7) (T := TX7) (N := 24) hx hb hts in_wsX7_isGood_X7 hown hK.1 hP 0 rfl rfl 0 (by decide) (w_mem hts 2 rfl) (fun _ h9 => h9) rfl dX7_isGood_132 ?_
        refine lv_iload_n hx hb dX7_isGood_135 rfl (lv_at hl 3 rfl) ?_
        obtain ⟨g136, h⟩ := gd_ex h
        refine va_iald (D := G.1) hx hb hK.1 hP 1 0 rfl rfl g136 dX7_isGood_136 ?_
        obtain ⟨r_10, hr_10, h⟩ := bd_ex h
        refine ro_i (va_runS (As := [.int x1, .int (C.2 0 x3.toNatClampNeg)]) (rest := [.int x2]) ⟨hx, hb, hml, hown, hts⟩ (kX7_has l G q C x1 (C.2 0 x3.toNatClampNeg) r_10 hr_10) (va_cwS 2 hts gX7_isGood_X7_has rfl rfl rfl (by decide +kernel) ⟨Nat.le_of_ble_eq_true rfl, Nat.le_of_ble_eq_true rfl⟩) (roS hP hK) rfl rfl hl.1 rfl (lv_room (Nat.le_of_ble_eq_true rfl)) dX7_isGood_137 ⟨Nat.zero_le _, Nat.zero_le _⟩) ?_
        refine lv_if_eq (tgt := 147) hx hb dX7_isGood_140 (by decide) (fun c_140 => ?_) (fun c_140 => ?_)
        · have h := br_T h c_140
          refine lv_iconst (v := 0) hx hb dX7_isGood_147 (by decide) ?_
          exact wX7_isGood_148 bx hP hK hk8 x1 x3 x4 x2 0 h _ (lv_sub hl [0, 1, 3, 4] rfl)
        · have h := br_F h c_140
          exact wX7_isGood_143 bx hP hK hk8 x1 x3 x4 x2 h _ (lv_sub hl [0, 1, 3, 4] rfl)
  · have h := br_F h c_32
    refine lv_iload hx hb dX7_isGood_35 (lv_at hl 4 rfl) ?_
    refine lv_aload_n hx hb dX7_isGood_37 rfl (lv_at hl 0 rfl) ?_
    refine va_get (D := G.1) (ci := 8) (v := .ref (q 1)) (C := RX7) (T := TX7) (N := 24) hx hb hts in_wsX7_isGood_X7 hown hK.1 hP 0 rfl rfl 0 (by decide) (w_mem hts 2 rfl) (fun _ h9 => h9) rfl dX7_isGood_38 ?_
    refine lv_iload hx hb dX7_isGood_41 (lv_at hl 5 rfl) ?_
    obtain ⟨g43, h⟩ := gd_ex h
    refine va_iald (D := G.1) hx hb hK.1 hP 1 0 rfl rfl g43 dX7_isGood_43 ?_
    refine lv_iload_n hx hb dX7_isGood_44 rfl (lv_at hl 3 rfl) ?_
    refine lv_icmp_ne (tgt := 61) hx hb dX7_isGood_45 (by decide) (fun c_45 => ?_) (fun c_45 => ?_)
    · have h := br_F h c_45
      exact wX7_isGood_61 bx hP hK hk26 x1 x2 x3 x5 x4 h _ (lv_sub hl [0, 1, 2, 3, 5] rfl)
    · have h := br_T h c_45
      refine lv_iload_n hx hb dX7_isGood_48 rfl (lv_at hl 1 rfl) ?_
      refine lv_iload hx hb dX7_isGood_49 (lv_at hl 5 rfl) ?_
      obtain ⟨r_16, hr_16, h⟩ := bd_ex h
      refine ro_i (va_runS (As := [.int x1, .int x5]) (rest := [.int x4]) ⟨hx, hb, hml, hown, hts⟩ (kX7_has l G q C x1 x5 r_16 hr_16) (va_cwS 2 hts gX7_isGood_X7_has rfl rfl rfl (by decide +kernel) ⟨Nat.le_of_ble_eq_true rfl, Nat.le_of_ble_eq_true rfl⟩) (roS hP hK) rfl rfl hl.1 rfl (lv_room (Nat.le_of_ble_eq_true rfl)) dX7_isGood_51 ⟨Nat.zero_le _, Nat.zero_le _⟩) ?_
      refine lv_if_eq (tgt := 61) hx hb dX7_isGood_54 (by decide) (fun c_54 => ?_) (fun c_54 => ?_)
      · have h := br_T h c_54
        exact wX7_isGood_61 bx hP hK hk26 x1 x2 x3 x5 x4 h _ (lv_sub hl [0, 1, 2, 3, 5] rfl)
      · have h := br_F h c_54
        refine lv_iconst (v := 1) hx hb dX7_isGood_57 (by decide) ?_
        refine lv_goto (tgt := 62) hx hb dX7_isGood_58 (by decide) ?_
        exact wX7_isGood_62 bx hP hK hk26 x1 x2 x3 x5 x4 1 h _ (lv_sub hl [0, 1, 2, 3, 5] rfl)

theorem wX7_isGood_26 {p : Program} {l : Launch} {e : Env} {s : State} {m : MethodId} {args : Array Value} {below : List Frame} {meth : Method} {c : Code} {G : GT} {q : Nat → Nat} {C : St} {out : Int32} (bx : BX p RX7 wsX7_isGood cX7_isGood 6 (some .boolean) s m args meth c) (hP : va_P G.1 vwCl (MW G q C) s.heap) (hK : CK G s) {k8 : St → Int32 → Int32 → Int32 → Option (Int32)} (hk8 : ∀ (x1 : Int32) (x2 : Int32) (x3 : Int32), k8 C x1 x2 x3 = some out → ∀ (ls : Array Slot), lv_has ls 6 [(0, .ref (q 0)), (1, .int x1), (2, .int x2), (3, .int x3)] → GoI p l e rmX7_isGood s m args below meth c out (F0 m 8 ls [])) :
    ∀ (n : Nat) (x1 : Int32) (x2 : Int32) (x3 : Int32) (x4 : Int32) (x5 : Int32), pX7_isGood_26 k8 n C x1 x2 x3 x4 x5 = some out → ∀ (ls : Array Slot), lv_has ls 6 [(0, .ref (q 0)), (1, .int x1), (2, .int x2), (3, .int x3), (4, .int x4), (5, .int x5)] → GoI p l e rmX7_isGood s m args below meth c out (F0 m 26 ls []) := by
  intro n
  induction n with
  | zero => intro _ _ _ _ _ h; cases h
  | succ n ih => exact fun a0 a1 a2 a3 a4 h ls hl => wX7_isGood_26_b bx hP hK hk8 ih a0 a1 a2 a3 a4 h ls hl

set_option maxHeartbeats 4000000 in
set_option maxRecDepth 100000 in
theorem wX7_isGood_8_b {p : Program} {l : Launch} {e : Env} {s : State} {m : MethodId} {args : Array Value} {below : List Frame} {meth : Method} {c : Code} {G : GT} {q : Nat → Nat} {C : St} {out : Int32} (bx : BX p RX7 wsX7_isGood cX7_isGood 6 (some .boolean) s m args meth c) (hP : va_P G.1 vwCl (MW G q C) s.heap) (hK : CK G s) {k8 : St → Int32 → Int32 → Int32 → Option (Int32)} (hk8 : ∀ (x1 : Int32) (x2 : Int32) (x3 : Int32), k8 C x1 x2 x3 = some out → ∀ (ls : Array Slot), lv_has ls 6 [(0, .ref (q 0)), (1, .int x1), (2, .int x2), (3, .int x3)] → GoI p l e rmX7_isGood s m args below meth c out (F0 m 8 ls [])) (x1 : Int32) (x2 : Int32) (x3 : Int32) (h : pX7_isGood_8_b k8 C x1 x2 x3 = some out) (ls : Array Slot) (hl : lv_has ls 6 [(0, .ref (q 0)), (1, .int x1), (2, .int x2), (3, .int x3)]) : GoI p l e rmX7_isGood s m args below meth c out (F0 m 8 ls []) := by
  obtain ⟨hx, hb, hr, hts, hown, hml, hlocks⟩ := id bx
  unfold pX7_isGood_8_b at h
  refine lv_iload_n hx hb dX7_isGood_8 rfl (lv_at hl 3 rfl) ?_
  refine lv_aload_n hx hb dX7_isGood_9 rfl (lv_at hl 0 rfl) ?_
  refine va_get (D := G.1) (ci := 8) (v := .int (C.1 0)) (C := RX7) (T := TX7) (N := 24) hx hb hts in_wsX7_isGood_X7 hown hK.1 hP 0 rfl rfl 16 (by decide) (w_mem hts 1 rfl) (fun _ h9 => h9) rfl dX7_isGood_10 ?_
  refine lv_icmp_ge (tgt := 192) hx hb dX7_isGood_13 (by decide) (fun c_13 => ?_) (fun c_13 => ?_)
  · have h := br_T h c_13
    exact wX7_isGood_192 bx hP hK x1 x2 h _ (lv_sub hl [0, 1, 2] rfl)
  · have h := br_F h c_13
    refine lv_iload_n hx hb dX7_isGood_16 rfl (lv_at hl 2 rfl) ?_
    refine lv_if_eq (tgt := 192) hx hb dX7_isGood_17 (by decide) (fun c_17 => ?_) (fun c_17 => ?_)
    · have h := br_T h c_17
      exact wX7_isGood_192 bx hP hK x1 x2 h _ (lv_sub hl [0, 1, 2] rfl)
    · have h := br_F h c_17
      refine lv_iconst (v := 0) hx hb dX7_isGood_20 (by decide) ?_
      refine lv_istore (lv' := [(4, .int 0), (0, .ref (q 0)), (1, .int x1), (2, .int x2), (3, .int x3)]) hx hb dX7_isGood_21 hl (by decide) rfl (fun ls hl => ?_)
      refine lv_iconst (v := 1) hx hb dX7_isGood_23 (by decide) ?_
      refine lv_istore (lv' := [(5, .int 1), (4, .int 0), (0, .ref (q 0)), (1, .int x1), (2, .int x2), (3, .int x3)]) hx hb dX7_isGood_24 hl (by decide) rfl (fun ls hl => ?_)
      exact wX7_isGood_26 bx hP hK hk8 FU x1 x2 x3 0 1 h _ (lv_sub hl [2, 3, 4, 5, 1, 0] rfl)

theorem wX7_isGood_8 {p : Program} {l : Launch} {e : Env} {s : State} {m : MethodId} {args : Array Value} {below : List Frame} {meth : Method} {c : Code} {G : GT} {q : Nat → Nat} {C : St} {out : Int32} (bx : BX p RX7 wsX7_isGood cX7_isGood 6 (some .boolean) s m args meth c) (hP : va_P G.1 vwCl (MW G q C) s.heap) (hK : CK G s) :
    ∀ (n : Nat) (x1 : Int32) (x2 : Int32) (x3 : Int32), pX7_isGood_8 n C x1 x2 x3 = some out → ∀ (ls : Array Slot), lv_has ls 6 [(0, .ref (q 0)), (1, .int x1), (2, .int x2), (3, .int x3)] → GoI p l e rmX7_isGood s m args below meth c out (F0 m 8 ls []) := by
  intro n
  induction n with
  | zero => intro _ _ _ h; cases h
  | succ n ih => exact fun a0 a1 a2 h ls hl => wX7_isGood_8_b bx hP hK ih a0 a1 a2 h ls hl

set_option maxHeartbeats 4000000 in
set_option maxRecDepth 100000 in
theorem kX7_isGood (l : Launch) (G : GT) (q : Nat → Nat) (C : St) (x1 : Int32) (r : Int32) (h : pX7_isGood C x1 = some r) : Met l yX7_isGood wsX7_isGood rmX7_isGood (va_Pc [.ref (q 0), .int x1] (roP G (MW G q C))) (vp_Si (fun v => v = r)) 0 0 (fun _ => False) := by
  refine Met.ofW (cc := cX7_isGood) (maxL := 6) (ret := (some .boolean)) (by decide) rfl ?_
  intro p e s m args below meth c s₁ B hml hv
  obtain ⟨rfl, hP, hK⟩ := hv
  have bx := bx_of B hml
  obtain ⟨hx, hb, hr, hts, hown, hml, hlocks⟩ := id bx
  have hl := lv_entry ([.ref (q 0), .int x1]) (n := 6) (Nat.le_of_ble_eq_true rfl)
  rw [lg_entry_eq]
  generalize (lg_sl ([.ref (q 0), .int x1]) ++ List.replicate (6 - (lg_sl ([.ref (q 0), .int x1])).length) Slot.unset).toArray = ls at hl ⊢
  have hl : lv_has ls 6 [(0, .ref (q 0)), (1, .int x1)] := hl
  show GoI p l e rmX7_isGood s m _ below meth c r (F0 m 0 ls [])
  unfold pX7_isGood at h
  refine lv_iload_n hx hb dX7_isGood_0 rfl (lv_at hl 1 rfl) ?_
  refine lv_iconst (v := 0) hx hb dX7_isGood_1 (by decide) ?_
  obtain ⟨r_1, hr_1, h⟩ := bd_ex h
  refine ro_i (va_runS (As := [.int x1, .int 0]) (rest := []) ⟨hx, hb, hml, hown, hts⟩ (kX7_has l G q C x1 0 r_1 hr_1) (va_cwS 2 hts gX7_isGood_X7_has rfl rfl rfl (by decide +kernel) ⟨Nat.le_of_ble_eq_true rfl, Nat.le_of_ble_eq_true rfl⟩) (roS hP hK) rfl rfl hl.1 rfl (lv_room (Nat.le_of_ble_eq_true rfl)) dX7_isGood_2 ⟨Nat.zero_le _, Nat.zero_le _⟩) ?_
  refine lv_istore_n (lv' := [(2, .int r_1), (0, .ref (q 0)), (1, .int x1)]) hx hb dX7_isGood_5 rfl hl (by decide) rfl (fun ls hl => ?_)
  refine lv_iconst (v := 0) hx hb dX7_isGood_6 (by decide) ?_
  refine lv_istore_n (lv' := [(3, .int 0), (2, .int r_1), (0, .ref (q 0)), (1, .int x1)]) hx hb dX7_isGood_7 rfl hl (by decide) rfl (fun ls hl => ?_)
  exact wX7_isGood_8 bx hP hK FU x1 r_1 0 h _ (lv_sub hl [2, 3, 1, 0] rfl)

def rmX7_completes : Room := { frames := 3, cells := 0, slots := 0, locals := 68 }

theorem in_wsX7_completes_X7 : ∀ w ∈ u_ws RX7 TX7 24, w ∈ wsX7_completes := by decide +kernel

set_option maxHeartbeats 4000000 in
set_option maxRecDepth 100000 in
theorem kX7_completes (l : Launch) (G : GT) (q : Nat → Nat) (C : St) (x1 : Int32) (r : Int32) (h : pX7_completes C x1 = some r) : Met l yX7_completes wsX7_completes rmX7_completes (va_Pc [.ref (q 0), .int x1] (roP G (MW G q C))) (vp_Si (fun v => v = r)) 0 0 (fun _ => False) := by
  refine Met.ofW (cc := cX7_completes) (maxL := 2) (ret := (some .boolean)) (by decide) rfl ?_
  intro p e s m args below meth c s₁ B hml hv
  obtain ⟨rfl, hP, hK⟩ := hv
  have bx := bx_of B hml
  obtain ⟨hx, hb, hr, hts, hown, hml, hlocks⟩ := id bx
  have hl := lv_entry ([.ref (q 0), .int x1]) (n := 2) (Nat.le_of_ble_eq_true rfl)
  rw [lg_entry_eq]
  generalize (lg_sl ([.ref (q 0), .int x1]) ++ List.replicate (2 - (lg_sl ([.ref (q 0), .int x1])).length) Slot.unset).toArray = ls at hl ⊢
  have hl : lv_has ls 2 [(0, .ref (q 0)), (1, .int x1)] := hl
  show GoI p l e rmX7_completes s m _ below meth c r (F0 m 0 ls [])
  unfold pX7_completes at h
  refine lv_iload_n hx hb dX7_completes_0 rfl (lv_at hl 1 rfl) ?_
  refine lv_aload_n hx hb dX7_completes_1 rfl (lv_at hl 0 rfl) ?_
  refine va_get (D := G.1) (ci := 8) (v := .int (C.1 3)) (C := RX7) (T := TX7) (N := 24) hx hb hts in_wsX7_completes_X7 hown hK.1 hP 0 rfl rfl 19 (by decide) (w_mem hts 1 rfl) (fun _ h9 => h9) rfl dX7_completes_2 ?_
  refine lv_iand hx hb dX7_completes_5 ?_
  refine lv_aload_n hx hb dX7_completes_6 rfl (lv_at hl 0 rfl) ?_
  refine va_get (D := G.1) (ci := 8) (v := .int (C.1 3)) (C := RX7) (T := TX7) (N := 24) hx hb hts in_wsX7_completes_X7 hown hK.1 hP 0 rfl rfl 19 (by decide) (w_mem hts 1 rfl) (fun _ h9 => h9) rfl dX7_completes_7 ?_
  refine lv_icmp_ne (tgt := 34) hx hb dX7_completes_10 (by decide) (fun c_10 => ?_) (fun c_10 => ?_)
  · have h := br_F h c_10
    refine lv_iconst (v := 0) hx hb dX7_completes_34 (by decide) ?_
    exact GoI.end hx hb hr hlocks dX7_completes_35 rfl h
  · have h := br_T h c_10
    refine lv_iload_n hx hb dX7_completes_13 rfl (lv_at hl 1 rfl) ?_
    refine lv_aload_n hx hb dX7_completes_14 rfl (lv_at hl 0 rfl) ?_
    refine va_get (D := G.1) (ci := 8) (v := .int (C.1 4)) (C := RX7) (T := TX7) (N := 24) hx hb hts in_wsX7_completes_X7 hown hK.1 hP 0 rfl rfl 20 (by decide) (w_mem hts 2 rfl) (fun _ h9 => h9) rfl dX7_completes_15 ?_
    refine lv_iand hx hb dX7_completes_18 ?_
    refine lv_if_ne (tgt := 34) hx hb dX7_completes_19 (by decide) (fun c_19 => ?_) (fun c_19 => ?_)
    · have h := br_F h c_19
      refine lv_iconst (v := 0) hx hb dX7_completes_34 (by decide) ?_
      exact GoI.end hx hb hr hlocks dX7_completes_35 rfl h
    · have h := br_T h c_19
      refine lv_aload_n hx hb dX7_completes_22 rfl (lv_at hl 0 rfl) ?_
      refine lv_iload_n hx hb dX7_completes_23 rfl (lv_at hl 1 rfl) ?_
      obtain ⟨r_1, hr_1, h⟩ := bd_ex h
      refine ro_i (va_runV (As := [.int x1]) (rest := []) ⟨hx, hb, hml, hown, hts⟩ (kX7_isGood l G q C x1 r_1 hr_1) (cwV 1 hts gX7_completes_X7_isGood rfl rfl rfl (by decide +kernel) ⟨Nat.le_of_ble_eq_true rfl, Nat.le_of_ble_eq_true rfl⟩) (roV hP hK 8 0 rfl rfl) rfl rfl hl.1 rfl (lv_room (Nat.le_of_ble_eq_true rfl)) dX7_completes_24 ⟨Nat.zero_le _, Nat.zero_le _⟩) ?_
      refine lv_if_eq (tgt := 34) hx hb dX7_completes_27 (by decide) (fun c_27 => ?_) (fun c_27 => ?_)
      · have h := br_T h c_27
        refine lv_iconst (v := 0) hx hb dX7_completes_34 (by decide) ?_
        exact GoI.end hx hb hr hlocks dX7_completes_35 rfl h
      · have h := br_F h c_27
        refine lv_iconst (v := 1) hx hb dX7_completes_30 (by decide) ?_
        refine lv_goto (tgt := 35) hx hb dX7_completes_31 (by decide) ?_
        exact GoI.end hx hb hr hlocks dX7_completes_35 rfl h

def rmX7_isNoneLeft : Room := { frames := 4, cells := 0, slots := 0, locals := 89 }

theorem in_wsX7_isNoneLeft_X7 : ∀ w ∈ u_ws RX7 TX7 24, w ∈ wsX7_isNoneLeft := by decide +kernel

set_option maxHeartbeats 4000000 in
set_option maxRecDepth 100000 in
theorem wX7_isNoneLeft_2_b {p : Program} {l : Launch} {e : Env} {s : State} {m : MethodId} {args : Array Value} {below : List Frame} {meth : Method} {c : Code} {G : GT} {q : Nat → Nat} {C : St} {out : Int32} (bx : BX p RX7 wsX7_isNoneLeft cX7_isNoneLeft 2 (some .boolean) s m args meth c) (hP : va_P G.1 vwCl (MW G q C) s.heap) (hK : CK G s) {k2 : St → Int32 → Option (Int32)} (hk2 : ∀ (x1 : Int32), k2 C x1 = some out → ∀ (ls : Array Slot), lv_has ls 2 [(0, .ref (q 0)), (1, .int x1)] → GoI p l e rmX7_isNoneLeft s m args below meth c out (F0 m 2 ls [])) (x1 : Int32) (h : pX7_isNoneLeft_2_b k2 C x1 = some out) (ls : Array Slot) (hl : lv_has ls 2 [(0, .ref (q 0)), (1, .int x1)]) : GoI p l e rmX7_isNoneLeft s m args below meth c out (F0 m 2 ls []) := by
  obtain ⟨hx, hb, hr, hts, hown, hml, hlocks⟩ := id bx
  unfold pX7_isNoneLeft_2_b at h
  refine lv_iload_n hx hb dX7_isNoneLeft_2 rfl (lv_at hl 1 rfl) ?_
  refine lv_iconst (v := 1) hx hb dX7_isNoneLeft_3 (by decide) ?_
  refine lv_aload_n hx hb dX7_isNoneLeft_4 rfl (lv_at hl 0 rfl) ?_
  refine va_get (D := G.1) (ci := 8) (v := .int (C.1 0)) (C := RX7) (T := TX7) (N := 24) hx hb hts in_wsX7_isNoneLeft_X7 hown hK.1 hP 0 rfl rfl 16 (by decide) (w_mem hts 1 rfl) (fun _ h9 => h9) rfl dX7_isNoneLeft_5 ?_
  refine lv_ishl hx hb dX7_isNoneLeft_8 ?_
  refine lv_icmp_ge (tgt := 28) hx hb dX7_isNoneLeft_9 (by decide) (fun c_9 => ?_) (fun c_9 => ?_)
  · have h := br_T h c_9
    refine lv_iconst (v := 1) hx hb dX7_isNoneLeft_28 (by decide) ?_
    exact GoI.end hx hb hr hlocks dX7_isNoneLeft_29 rfl h
  · have h := br_F h c_9
    refine lv_aload_n hx hb dX7_isNoneLeft_12 rfl (lv_at hl 0 rfl) ?_
    refine lv_iload_n hx hb dX7_isNoneLeft_13 rfl (lv_at hl 1 rfl) ?_
    obtain ⟨r_1, hr_1, h⟩ := bd_ex h
    refine ro_i (va_runV (As := [.int x1]) (rest := []) ⟨hx, hb, hml, hown, hts⟩ (kX7_completes l G q C x1 r_1 hr_1) (cwV 1 hts gX7_isNoneLeft_X7_completes rfl rfl rfl (by decide +kernel) ⟨Nat.le_of_ble_eq_true rfl, Nat.le_of_ble_eq_true rfl⟩) (roV hP hK 8 0 rfl rfl) rfl rfl hl.1 rfl (lv_room (Nat.le_of_ble_eq_true rfl)) dX7_isNoneLeft_14 ⟨Nat.zero_le _, Nat.zero_le _⟩) ?_
    refine lv_if_eq (tgt := 22) hx hb dX7_isNoneLeft_17 (by decide) (fun c_17 => ?_) (fun c_17 => ?_)
    · have h := br_T h c_17
      obtain ⟨v_2, ev_2, h⟩ := ltv_ex h
      refine lv_iinc (v := v_2) (lv' := [(1, .int v_2), (0, .ref (q 0))]) hx hb dX7_isNoneLeft_22 hl (k := 1) rfl (by rw [ev_2]; rfl) (by decide) rfl (fun ls hl => ?_)
      refine lv_goto (tgt := 2) hx hb dX7_isNoneLeft_25 (by decide) ?_
      exact hk2 v_2 h _ (lv_sub hl [1, 0] rfl)
    · have h := br_F h c_17
      refine lv_iconst (v := 0) hx hb dX7_isNoneLeft_20 (by decide) ?_
      exact GoI.end hx hb hr hlocks dX7_isNoneLeft_21 rfl h

theorem wX7_isNoneLeft_2 {p : Program} {l : Launch} {e : Env} {s : State} {m : MethodId} {args : Array Value} {below : List Frame} {meth : Method} {c : Code} {G : GT} {q : Nat → Nat} {C : St} {out : Int32} (bx : BX p RX7 wsX7_isNoneLeft cX7_isNoneLeft 2 (some .boolean) s m args meth c) (hP : va_P G.1 vwCl (MW G q C) s.heap) (hK : CK G s) :
    ∀ (n : Nat) (x1 : Int32), pX7_isNoneLeft_2 n C x1 = some out → ∀ (ls : Array Slot), lv_has ls 2 [(0, .ref (q 0)), (1, .int x1)] → GoI p l e rmX7_isNoneLeft s m args below meth c out (F0 m 2 ls []) := by
  intro n
  induction n with
  | zero => intro _ h; cases h
  | succ n ih => exact fun a0 h ls hl => wX7_isNoneLeft_2_b bx hP hK ih a0 h ls hl

set_option maxHeartbeats 4000000 in
set_option maxRecDepth 100000 in
theorem kX7_isNoneLeft (l : Launch) (G : GT) (q : Nat → Nat) (C : St) (r : Int32) (h : pX7_isNoneLeft C = some r) : Met l yX7_isNoneLeft wsX7_isNoneLeft rmX7_isNoneLeft (va_Pc [.ref (q 0)] (roP G (MW G q C))) (vp_Si (fun v => v = r)) 0 0 (fun _ => False) := by
  refine Met.ofW (cc := cX7_isNoneLeft) (maxL := 2) (ret := (some .boolean)) (by decide) rfl ?_
  intro p e s m args below meth c s₁ B hml hv
  obtain ⟨rfl, hP, hK⟩ := hv
  have bx := bx_of B hml
  obtain ⟨hx, hb, hr, hts, hown, hml, hlocks⟩ := id bx
  have hl := lv_entry ([.ref (q 0)]) (n := 2) (Nat.le_of_ble_eq_true rfl)
  rw [lg_entry_eq]
  generalize (lg_sl ([.ref (q 0)]) ++ List.replicate (2 - (lg_sl ([.ref (q 0)])).length) Slot.unset).toArray = ls at hl ⊢
  have hl : lv_has ls 2 [(0, .ref (q 0))] := hl
  show GoI p l e rmX7_isNoneLeft s m _ below meth c r (F0 m 0 ls [])
  unfold pX7_isNoneLeft at h
  refine lv_iconst (v := 1) hx hb dX7_isNoneLeft_0 (by decide) ?_
  refine lv_istore_n (lv' := [(1, .int 1), (0, .ref (q 0))]) hx hb dX7_isNoneLeft_1 rfl hl (by decide) rfl (fun ls hl => ?_)
  exact wX7_isNoneLeft_2 bx hP hK FU 1 h _ (lv_sub hl [1, 0] rfl)
