def rmL_isFeature : Room := { frames := 9, cells := 1, slots := 6, locals := 167 }

set_option maxHeartbeats 4000000 in
set_option maxRecDepth 100000 in
theorem wL_isFeature_46 {p : Program} {l : Launch} {e : Env} {s : State} {m : MethodId} {args : Array Value} {below : List Frame} {meth : Method} {c : Code} {G : GT} {q : Nat → Nat} {A : Nat → Prop} {T : SC} {sb : Nat} {out : Int32 × St} (bx : BX p RL wsL_isFeature cL_isFeature 6 (some .boolean) s m args meth c) (hA : ∀ q : Nat, s.heap.size ≤ q → A q) (hK : CK G s) (hl0 : l.stackTraces = false) (hE : XE A s) (hX : va_X sb T.1 T.2 s s.heap) (hbl : sb < s.heap.size) (hbA : ¬ A sb) (C : St) (x4 : Int32) (t0 : Int32) (h : pL_isFeature_46 T C x4 t0 = some out) {H : Heap} {locs : List Loc} (hP : va_P G.1 vwCl (LW G q C) H) (hD : va_D A (LW G q C)) (hS : va_S A s.heap H locs) (ls : Array Slot) (hl : lv_has ls 6 [(0, .ref (q 0)), (1, .ref (q 20)), (4, .int x4)]) : W p l e rmL_isFeature s m args below meth c H locs 0 0 (MYi G (LW G q) A s args below out 1 6) (F0 m 46 ls [.int t0]) := by
  obtain ⟨hx, hb, hr, hts, hown, hml, hlocks⟩ := id bx
  unfold pL_isFeature_46 at h
  refine lv_istore (lv' := [(5, .int t0), (0, .ref (q 0)), (1, .ref (q 20)), (4, .int x4)]) hx hb dL_isFeature_46 hl (by decide) rfl (fun ls hl => ?_)
  refine lv_aload_n hx hb dL_isFeature_48 rfl (lv_at hl 2 rfl) ?_
  refine lv_iconst (v := 0) hx hb dL_isFeature_49 (by decide) ?_
  obtain ⟨g50, h⟩ := gd_ex h
  refine va_iald (D := G.1) hx hb hK.1 hP 20 0 rfl rfl g50 dL_isFeature_50 ?_
  refine lv_bipush (v := 8) hx hb dL_isFeature_51 (by decide) ?_
  refine lv_icmp_ne (tgt := 76) hx hb dL_isFeature_53 (by decide) (fun c_53 => ?_) (fun c_53 => ?_)
  · have h := br_F h c_53
    refine lv_aload_n hx hb dL_isFeature_76 rfl (lv_at hl 2 rfl) ?_
    refine lv_bipush (v := 10) hx hb dL_isFeature_77 (by decide) ?_
    refine lv_aload_n hx hb dL_isFeature_79 rfl (lv_at hl 2 rfl) ?_
    refine lv_iconst (v := 0) hx hb dL_isFeature_80 (by decide) ?_
    obtain ⟨g81, h⟩ := gd_ex h
    refine va_iald (D := G.1) hx hb hK.1 hP 20 0 rfl rfl g81 dL_isFeature_81 ?_
    refine lv_iadd hx hb dL_isFeature_82 ?_
    refine lv_iload hx hb dL_isFeature_83 (lv_at hl 3 rfl) ?_
    obtain ⟨g85, h⟩ := gd_ex h
    refine va_iast (D := G.1) hx hb hK.1 hP hD hS 20 0 rfl rfl g85 dL_isFeature_85 (fun H locs hP hD hS => ?_)
    have hP : va_P G.1 vwCl (LW G q (sA C 14 (10 + (C.2 14 (0 : Int32).toNatClampNeg)).toNatClampNeg x4)) H := hP
    have hD : va_D A (LW G q (sA C 14 (10 + (C.2 14 (0 : Int32).toNatClampNeg)).toNatClampNeg x4)) := hD
    obtain ⟨C_4, eC_4, h⟩ := ltv_ex h
    rw [← eC_4] at hP hD
    refine lv_aload_n hx hb dL_isFeature_86 rfl (lv_at hl 2 rfl) ?_
    refine lv_bipush (v := 30) hx hb dL_isFeature_87 (by decide) ?_
    refine lv_aload_n hx hb dL_isFeature_89 rfl (lv_at hl 2 rfl) ?_
    refine lv_iconst (v := 0) hx hb dL_isFeature_90 (by decide) ?_
    obtain ⟨g91, h⟩ := gd_ex h
    refine va_iald (D := G.1) hx hb hK.1 hP 20 0 rfl rfl g91 dL_isFeature_91 ?_
    refine lv_iadd hx hb dL_isFeature_92 ?_
    refine lv_iload hx hb dL_isFeature_93 (lv_at hl 0 rfl) ?_
    obtain ⟨g95, h⟩ := gd_ex h
    refine va_iast (D := G.1) hx hb hK.1 hP hD hS 20 0 rfl rfl g95 dL_isFeature_95 (fun H locs hP hD hS => ?_)
    have hP : va_P G.1 vwCl (LW G q (sA C_4 14 (30 + (C_4.2 14 (0 : Int32).toNatClampNeg)).toNatClampNeg t0)) H := hP
    have hD : va_D A (LW G q (sA C_4 14 (30 + (C_4.2 14 (0 : Int32).toNatClampNeg)).toNatClampNeg t0)) := hD
    obtain ⟨C_5, eC_5, h⟩ := ltv_ex h
    rw [← eC_5] at hP hD
    refine lv_aload_n hx hb dL_isFeature_96 rfl (lv_at hl 2 rfl) ?_
    refine lv_bipush (v := 70) hx hb dL_isFeature_97 (by decide) ?_
    refine lv_aload_n hx hb dL_isFeature_99 rfl (lv_at hl 2 rfl) ?_
    refine lv_iconst (v := 0) hx hb dL_isFeature_100 (by decide) ?_
    obtain ⟨g101, h⟩ := gd_ex h
    refine va_iald (D := G.1) hx hb hK.1 hP 20 0 rfl rfl g101 dL_isFeature_101 ?_
    refine lv_iadd hx hb dL_isFeature_102 ?_
    refine lv_bipush (v := 12) hx hb dL_isFeature_103 (by decide) ?_
    obtain ⟨g105, h⟩ := gd_ex h
    refine va_iast (D := G.1) hx hb hK.1 hP hD hS 20 0 rfl rfl g105 dL_isFeature_105 (fun H locs hP hD hS => ?_)
    have hP : va_P G.1 vwCl (LW G q (sA C_5 14 (70 + (C_5.2 14 (0 : Int32).toNatClampNeg)).toNatClampNeg 12)) H := hP
    have hD : va_D A (LW G q (sA C_5 14 (70 + (C_5.2 14 (0 : Int32).toNatClampNeg)).toNatClampNeg 12)) := hD
    obtain ⟨C_6, eC_6, h⟩ := ltv_ex h
    rw [← eC_6] at hP hD
    refine lv_aload_n hx hb dL_isFeature_106 rfl (lv_at hl 2 rfl) ?_
    refine lv_iconst (v := 0) hx hb dL_isFeature_107 (by decide) ?_
    refine lv_dup2_11 hx hb dL_isFeature_108 rfl rfl ?_
    obtain ⟨g109, h⟩ := gd_ex h
    refine va_iald (D := G.1) hx hb hK.1 hP 20 0 rfl rfl g109 dL_isFeature_109 ?_
    refine lv_iconst (v := 1) hx hb dL_isFeature_110 (by decide) ?_
    refine lv_iadd hx hb dL_isFeature_111 ?_
    obtain ⟨g112, h⟩ := gd_ex h
    refine va_iast (D := G.1) hx hb hK.1 hP hD hS 20 0 rfl rfl g112 dL_isFeature_112 (fun H locs hP hD hS => ?_)
    have hP : va_P G.1 vwCl (LW G q (sA C_6 14 (0 : Int32).toNatClampNeg ((C_6.2 14 (0 : Int32).toNatClampNeg) + 1))) H := hP
    have hD : va_D A (LW G q (sA C_6 14 (0 : Int32).toNatClampNeg ((C_6.2 14 (0 : Int32).toNatClampNeg) + 1))) := hD
    obtain ⟨C_7, eC_7, h⟩ := ltv_ex h
    rw [← eC_7] at hP hD
    refine lv_aload_n hx hb dL_isFeature_113 rfl (lv_at hl 1 rfl) ?_
    refine lv_iload hx hb dL_isFeature_114 (lv_at hl 3 rfl) ?_
    refine lv_iload hx hb dL_isFeature_116 (lv_at hl 0 rfl) ?_
    obtain ⟨u_8, hu_8, h⟩ := bd_ex h
    have hP : va_P G.1 vwCl ([] ++ (CW G q C_7 ++ (NL G q C_7))) _ := hP
    have hD : va_D A ([] ++ (CW G q C_7 ++ (NL G q C_7))) := hD
    refine wf_i (Wd := CW G q) [] (NL G q C_7) (vx_runSW (As := [.ref (q 0), .int x4, .int t0]) (rest := []) ⟨hx, hb, hml, hown, hts⟩ (kL_addFeature l hl0 G q C_7 _ x4 t0 u_8 hu_8) (vx_cwSW 3 hts gL_isFeature_L_addFeature rfl rfl rfl (by decide +kernel) ⟨Nat.le_of_ble_eq_true rfl, Nat.le_of_ble_eq_true rfl⟩) (xS (fr_mid [] (NL G q C_7) hP) (fr_midD [] (NL G q C_7) hD) hS hK hA hE) rfl rfl hl.1 rfl (lv_room (Nat.le_of_ble_eq_true rfl)) dL_isFeature_118 ⟨Nat.le_of_ble_eq_true rfl, Nat.le_of_ble_eq_true rfl⟩) hP hD hS hA (fun _ => rfl) (fun H locs hP hD hS => ?_)
    rw [← LW_mg] at hP hD
    obtain ⟨C_9, eC_9, h⟩ := ltv_ex h
    rw [← eC_9] at hP hD
    refine lv_aload_n hx hb dL_isFeature_121 rfl (lv_at hl 2 rfl) ?_
    refine lv_iconst (v := 0) hx hb dL_isFeature_122 (by decide) ?_
    obtain ⟨g123, h⟩ := gd_ex h
    refine va_iald (D := G.1) hx hb hK.1 hP 20 0 rfl rfl g123 dL_isFeature_123 ?_
    refine lv_iconst (v := 1) hx hb dL_isFeature_124 (by decide) ?_
    refine lv_isub hx hb dL_isFeature_125 ?_
    refine lv_icmp_ne (tgt := 133) hx hb dL_isFeature_126 (by decide) (fun c_126 => ?_) (fun c_126 => ?_)
    · have h := br_F h c_126
      refine lv_iconst (v := 0) hx hb dL_isFeature_133 (by decide) ?_
      exact MYi.end (Wd := LW G q) hx hb hr hlocks hP hS dL_isFeature_134 rfl h
    · have h := br_T h c_126
      refine lv_iconst (v := 1) hx hb dL_isFeature_129 (by decide) ?_
      refine lv_goto (tgt := 134) hx hb dL_isFeature_130 (by decide) ?_
      exact MYi.end (Wd := LW G q) hx hb hr hlocks hP hS dL_isFeature_134 rfl h
  · have h := br_T h c_53
    refine lv_aload_n hx hb dL_isFeature_56 rfl (lv_at hl 1 rfl) ?_
    refine lv_iload hx hb dL_isFeature_57 (lv_at hl 3 rfl) ?_
    refine lv_sipush (v := 1000) hx hb dL_isFeature_59 (by decide) ?_
    obtain ⟨u_10, hu_10, h⟩ := bd_ex h
    have hP : va_P G.1 vwCl ([] ++ (CW G q C ++ (NL G q C))) _ := hP
    have hD : va_D A ([] ++ (CW G q C ++ (NL G q C))) := hD
    refine wf_i (Wd := CW G q) [] (NL G q C) (vx_runSW (As := [.ref (q 0), .int x4, .int 1000]) (rest := []) ⟨hx, hb, hml, hown, hts⟩ (kL_addFeature l hl0 G q C _ x4 1000 u_10 hu_10) (vx_cwSW 3 hts gL_isFeature_L_addFeature rfl rfl rfl (by decide +kernel) ⟨Nat.le_of_ble_eq_true rfl, Nat.le_of_ble_eq_true rfl⟩) (xS (fr_mid [] (NL G q C) hP) (fr_midD [] (NL G q C) hD) hS hK hA hE) rfl rfl hl.1 rfl (lv_room (Nat.le_of_ble_eq_true rfl)) dL_isFeature_62 ⟨Nat.le_of_ble_eq_true rfl, Nat.le_of_ble_eq_true rfl⟩) hP hD hS hA (fun _ => rfl) (fun H locs hP hD hS => ?_)
    rw [← LW_mg] at hP hD
    obtain ⟨C_11, eC_11, h⟩ := ltv_ex h
    rw [← eC_11] at hP hD
    refine lv_ldc (own := RL) (v := -900002) hx hb hown (w_mem hts 1 rfl) dL_isFeature_65 ?_
    refine lv_icmp_ne (tgt := 74) hx hb dL_isFeature_67 (by decide) (fun c_67 => ?_) (fun c_67 => ?_)
    · have h := br_F h c_67
      refine lv_iconst (v := 0) hx hb dL_isFeature_74 (by decide) ?_
      exact MYi.end (Wd := LW G q) hx hb hr hlocks hP hS dL_isFeature_75 rfl h
    · have h := br_T h c_67
      refine lv_iconst (v := 1) hx hb dL_isFeature_70 (by decide) ?_
      refine lv_goto (tgt := 75) hx hb dL_isFeature_71 (by decide) ?_
      exact MYi.end (Wd := LW G q) hx hb hr hlocks hP hS dL_isFeature_75 rfl h

set_option maxHeartbeats 4000000 in
set_option maxRecDepth 100000 in
theorem kL_isFeature (l : Launch) (hl0 : l.stackTraces = false) (G : GT) (q : Nat → Nat) (sb : Nat) (T : SC) (C : St) (sz : Nat) (x3 : Int32) (r : Int32 × St) (h : pL_isFeature T C x3 = some r) : Met l yL_isFeature wsL_isFeature rmL_isFeature (va_Pc [.ref (q 0), .ref (q 20), .ref sb, .int x3] (xsP G (LW G q C) sz sb T)) (va_Qi (fun v u => (v, u) = r) (fun u t => va_P G.1 vwCl (LW G q u) t.heap) (va_A (LW G q C) sz)) 1 6 (va_A (LW G q C) sz) := by
  refine Met.ofW (cc := cL_isFeature) (maxL := 6) (ret := (some .boolean)) (by decide) rfl ?_
  intro p e s m args below meth c s₁ B hml hv
  obtain ⟨rfl, ⟨⟨hsz, hP, hK, hD0⟩, hE⟩, hX, hbl, hbA⟩ := hv
  have bx := bx_of B hml
  subst hsz
  have hD := hD0.self (sz := s.heap.size)
  generalize hAe : va_A (LW G q C) s.heap.size = A at hD hE hbA ⊢
  have hA : ∀ q : Nat, s.heap.size ≤ q → A q := fun q h => by rw [← hAe]; exact Or.inr h
  have hS : va_S A s.heap s.heap [] := va_S.rf
  obtain ⟨hx, hb, hr, hts, hown, hml, hlocks⟩ := id bx
  have hl := lv_entry ([.ref (q 0), .ref (q 20), .ref sb, .int x3]) (n := 6) (Nat.le_of_ble_eq_true rfl)
  rw [lg_entry_eq]
  generalize (lg_sl ([.ref (q 0), .ref (q 20), .ref sb, .int x3]) ++ List.replicate (6 - (lg_sl ([.ref (q 0), .ref (q 20), .ref sb, .int x3])).length) Slot.unset).toArray = ls at hl ⊢
  have hl : lv_has ls 6 [(0, .ref (q 0)), (1, .ref (q 20)), (2, .ref sb), (3, .int x3)] := hl
  show W p l e rmL_isFeature s m _ below meth c s.heap [] 0 0 (MYi G (LW G q) A s _ below r 1 6) (F0 m 0 ls [])
  unfold pL_isFeature at h
  refine lv_aload_n hx hb dL_isFeature_0 rfl (lv_at hl 2 rfl) ?_
  refine lv_iload_n hx hb dL_isFeature_1 rfl (lv_at hl 3 rfl) ?_
  refine lv_aload_n hx hb dL_isFeature_2 rfl (lv_at hl 1 rfl) ?_
  refine lv_iconst (v := 0) hx hb dL_isFeature_3 (by decide) ?_
  obtain ⟨g4, h⟩ := gd_ex h
  refine va_iald (D := G.1) hx hb hK.1 hP 20 0 rfl rfl g4 dL_isFeature_4 ?_
  obtain ⟨r_1, hr_1, h⟩ := bd_ex h
  refine ro_i (va_runS (As := [.ref sb, .int x3, .int (C.2 14 (0 : Int32).toNatClampNeg)]) (rest := []) ⟨hx, hb, hml, hown, hts⟩ (kL_in l sb T x3 (C.2 14 (0 : Int32).toNatClampNeg) r_1 hr_1) (va_cwS 3 hts gL_isFeature_L_in rfl rfl rfl (by decide +kernel) ⟨Nat.le_of_ble_eq_true rfl, Nat.le_of_ble_eq_true rfl⟩) (scS hX hbl hbA hS) rfl rfl hl.1 rfl (lv_room (Nat.le_of_ble_eq_true rfl)) dL_isFeature_5 ⟨Nat.le_of_ble_eq_true rfl, Nat.le_of_ble_eq_true rfl⟩) ?_
  refine lv_istore (lv' := [(4, .int r_1), (0, .ref (q 0)), (1, .ref (q 20)), (2, .ref sb), (3, .int x3)]) hx hb dL_isFeature_8 hl (by decide) rfl (fun ls hl => ?_)
  refine lv_aload_n hx hb dL_isFeature_10 rfl (lv_at hl 3 rfl) ?_
  refine lv_iload_n hx hb dL_isFeature_11 rfl (lv_at hl 4 rfl) ?_
  refine lv_iconst (v := 1) hx hb dL_isFeature_12 (by decide) ?_
  refine lv_iadd hx hb dL_isFeature_13 ?_
  refine lv_iconst (v := 5) hx hb dL_isFeature_14 (by decide) ?_
  obtain ⟨r_2, hr_2, h⟩ := bd_ex h
  refine ro_i (va_runS (As := [.ref sb, .int (x3 + 1), .int 5]) (rest := []) ⟨hx, hb, hml, hown, hts⟩ (kL_in l sb T (x3 + 1) 5 r_2 hr_2) (va_cwS 3 hts gL_isFeature_L_in rfl rfl rfl (by decide +kernel) ⟨Nat.le_of_ble_eq_true rfl, Nat.le_of_ble_eq_true rfl⟩) (scS hX hbl hbA hS) rfl rfl hl.1 rfl (lv_room (Nat.le_of_ble_eq_true rfl)) dL_isFeature_15 ⟨Nat.le_of_ble_eq_true rfl, Nat.le_of_ble_eq_true rfl⟩) ?_
  refine lv_if_ne (tgt := 34) hx hb dL_isFeature_18 (by decide) (fun c_18 => ?_) (fun c_18 => ?_)
  · have h := br_F h c_18
    refine lv_bipush (v := 10) hx hb dL_isFeature_34 (by decide) ?_
    refine lv_aload_n hx hb dL_isFeature_36 rfl (lv_at hl 3 rfl) ?_
    refine lv_iload_n hx hb dL_isFeature_37 rfl (lv_at hl 4 rfl) ?_
    refine lv_iconst (v := 2) hx hb dL_isFeature_38 (by decide) ?_
    refine lv_iadd hx hb dL_isFeature_39 ?_
    refine lv_bipush (v := 6) hx hb dL_isFeature_40 (by decide) ?_
    obtain ⟨r_3, hr_3, h⟩ := bd_ex h
    refine ro_i (va_runS (As := [.ref sb, .int (x3 + 2), .int 6]) (rest := [.int 10]) ⟨hx, hb, hml, hown, hts⟩ (kL_in l sb T (x3 + 2) 6 r_3 hr_3) (va_cwS 3 hts gL_isFeature_L_in rfl rfl rfl (by decide +kernel) ⟨Nat.le_of_ble_eq_true rfl, Nat.le_of_ble_eq_true rfl⟩) (scS hX hbl hbA hS) rfl rfl hl.1 rfl (lv_room (Nat.le_of_ble_eq_true rfl)) dL_isFeature_42 ⟨Nat.le_of_ble_eq_true rfl, Nat.le_of_ble_eq_true rfl⟩) ?_
    refine lv_imul hx hb dL_isFeature_45 ?_
    exact wL_isFeature_46 bx hA hK hl0 hE hX hbl hbA C r_1 (10 * r_3) h hP hD hS _ (lv_sub hl [1, 2, 0] rfl)
  · have h := br_T h c_18
    refine lv_aload_n hx hb dL_isFeature_21 rfl (lv_at hl 3 rfl) ?_
    refine lv_iload_n hx hb dL_isFeature_22 rfl (lv_at hl 4 rfl) ?_
    refine lv_iconst (v := 2) hx hb dL_isFeature_23 (by decide) ?_
    refine lv_iadd hx hb dL_isFeature_24 ?_
    refine lv_sipush (v := 1000) hx hb dL_isFeature_25 (by decide) ?_
    obtain ⟨r_12, hr_12, h⟩ := bd_ex h
    refine ro_i (va_runS (As := [.ref sb, .int (x3 + 2), .int 1000]) (rest := []) ⟨hx, hb, hml, hown, hts⟩ (kL_in l sb T (x3 + 2) 1000 r_12 hr_12) (va_cwS 3 hts gL_isFeature_L_in rfl rfl rfl (by decide +kernel) ⟨Nat.le_of_ble_eq_true rfl, Nat.le_of_ble_eq_true rfl⟩) (scS hX hbl hbA hS) rfl rfl hl.1 rfl (lv_room (Nat.le_of_ble_eq_true rfl)) dL_isFeature_28 ⟨Nat.le_of_ble_eq_true rfl, Nat.le_of_ble_eq_true rfl⟩) ?_
    refine lv_goto (tgt := 46) hx hb dL_isFeature_31 (by decide) ?_
    exact wL_isFeature_46 bx hA hK hl0 hE hX hbl hbA C r_1 r_12 h hP hD hS _ (lv_sub hl [1, 2, 0] rfl)

def rmL_isGroup : Room := { frames := 20, cells := 2, slots := 256, locals := 503 }

set_option maxHeartbeats 4000000 in
set_option maxRecDepth 100000 in
theorem wL_isGroup_122 {p : Program} {l : Launch} {e : Env} {s : State} {m : MethodId} {args : Array Value} {below : List Frame} {meth : Method} {c : Code} {G : GT} {q : Nat → Nat} {A : Nat → Prop} {out : Int32 × St} (bx : BX p RL wsL_isGroup cL_isGroup 8 (some .boolean) s m args meth c) (hA : ∀ q : Nat, s.heap.size ≤ q → A q) (hK : CK G s) (hl0 : l.stackTraces = false) (hE : XE A s) {k96 : St → Int32 → Int32 → Int32 → Int32 → Int32 → Option (Int32 × St)} (hk96 : ∀ (C : St) (x2 : Int32) (x3 : Int32) (x4 : Int32) (x6 : Int32) (x7 : Int32), k96 C x2 x3 x4 x6 x7 = some out → ∀ (H : Heap) (locs : List Loc) (hP : va_P G.1 vwCl (LX G q C) H) (hD : va_D A (LX G q C)) (hS : va_S A s.heap H locs), ∀ (ls : Array Slot), lv_has ls 8 [(0, .ref (q 0)), (1, .ref (q 20)), (2, .int x2), (3, .int x3), (4, .int x4), (6, .int x6), (7, .int x7)] → W p l e rmL_isGroup s m args below meth c H locs 1 250 (MYi G (LW G q) A s args below out 2 256) (F0 m 96 ls [])) (C : St) (x2 : Int32) (x3 : Int32) (x4 : Int32) (x7 : Int32) (t0 : Int32) (t1 : Int32) (h : pL_isGroup_122 k96 C x2 x3 x4 x7 t0 t1 = some out) {H : Heap} {locs : List Loc} (hP : va_P G.1 vwCl (LX G q C) H) (hD : va_D A (LX G q C)) (hS : va_S A s.heap H locs) (ls : Array Slot) (hl : lv_has ls 8 [(0, .ref (q 0)), (1, .ref (q 20)), (2, .int x2), (3, .int x3), (4, .int x4), (7, .int x7)]) : W p l e rmL_isGroup s m args below meth c H locs 1 250 (MYi G (LW G q) A s args below out 2 256) (F0 m 122 ls [.int t1, .int t0]) := by
  obtain ⟨hx, hb, hr, hts, hown, hml, hlocks⟩ := id bx
  unfold pL_isGroup_122 at h
  refine lv_iadd hx hb dL_isGroup_122 ?_
  refine lv_topi (fun v_9 ev_9 => ?_)
  have h := ltv_at h v_9 ev_9
  refine lv_istore (lv' := [(6, .int v_9), (0, .ref (q 0)), (1, .ref (q 20)), (2, .int x2), (3, .int x3), (4, .int x4), (7, .int x7)]) hx hb dL_isGroup_123 hl (by decide) rfl (fun ls hl => ?_)
  obtain ⟨v_10, ev_10, h⟩ := ltv_ex h
  refine lv_iinc (v := v_10) (lv' := [(7, .int v_10), (6, .int v_9), (0, .ref (q 0)), (1, .ref (q 20)), (2, .int x2), (3, .int x3), (4, .int x4)]) hx hb dL_isGroup_125 hl (k := 6) rfl (by rw [ev_10]; rfl) (by decide) rfl (fun ls hl => ?_)
  refine lv_goto (tgt := 96) hx hb dL_isGroup_128 (by decide) ?_
  exact hk96 C x2 x3 x4 v_9 v_10 h _ _ hP hD hS _ (lv_sub hl [2, 3, 4, 5, 6, 1, 0] rfl)

set_option maxHeartbeats 4000000 in
set_option maxRecDepth 100000 in
theorem wL_isGroup_96_b {p : Program} {l : Launch} {e : Env} {s : State} {m : MethodId} {args : Array Value} {below : List Frame} {meth : Method} {c : Code} {G : GT} {q : Nat → Nat} {A : Nat → Prop} {out : Int32 × St} (bx : BX p RL wsL_isGroup cL_isGroup 8 (some .boolean) s m args meth c) (hA : ∀ q : Nat, s.heap.size ≤ q → A q) (hK : CK G s) (hl0 : l.stackTraces = false) (hE : XE A s) {k96 : St → Int32 → Int32 → Int32 → Int32 → Int32 → Option (Int32 × St)} (hk96 : ∀ (C : St) (x2 : Int32) (x3 : Int32) (x4 : Int32) (x6 : Int32) (x7 : Int32), k96 C x2 x3 x4 x6 x7 = some out → ∀ (H : Heap) (locs : List Loc) (hP : va_P G.1 vwCl (LX G q C) H) (hD : va_D A (LX G q C)) (hS : va_S A s.heap H locs), ∀ (ls : Array Slot), lv_has ls 8 [(0, .ref (q 0)), (1, .ref (q 20)), (2, .int x2), (3, .int x3), (4, .int x4), (6, .int x6), (7, .int x7)] → W p l e rmL_isGroup s m args below meth c H locs 1 250 (MYi G (LW G q) A s args below out 2 256) (F0 m 96 ls [])) (C : St) (x2 : Int32) (x3 : Int32) (x4 : Int32) (x6 : Int32) (x7 : Int32) (h : pL_isGroup_96_b k96 C x2 x3 x4 x6 x7 = some out) {H : Heap} {locs : List Loc} (hP : va_P G.1 vwCl (LX G q C) H) (hD : va_D A (LX G q C)) (hS : va_S A s.heap H locs) (ls : Array Slot) (hl : lv_has ls 8 [(0, .ref (q 0)), (1, .ref (q 20)), (2, .int x2), (3, .int x3), (4, .int x4), (6, .int x6), (7, .int x7)]) : W p l e rmL_isGroup s m args below meth c H locs 1 250 (MYi G (LW G q) A s args below out 2 256) (F0 m 96 ls []) := by
  obtain ⟨hx, hb, hr, hts, hown, hml, hlocks⟩ := id bx
  unfold pL_isGroup_96_b at h
  refine lv_iload hx hb dL_isGroup_96 (lv_at hl 6 rfl) ?_
  refine lv_aload_n hx hb dL_isGroup_98 rfl (lv_at hl 1 rfl) ?_
  refine lv_iconst (v := 0) hx hb dL_isGroup_99 (by decide) ?_
  obtain ⟨g100, h⟩ := gd_ex h
  refine va_iald (D := G.1) hx hb hK.1 hP 20 0 rfl rfl g100 dL_isGroup_100 ?_
  refine lv_icmp_ge (tgt := 131) hx hb dL_isGroup_101 (by decide) (fun c_101 => ?_) (fun c_101 => ?_)
  · have h := br_T h c_101
    refine lv_aload_n hx hb dL_isGroup_131 rfl (lv_at hl 0 rfl) ?_
    refine lv_iload_n hx hb dL_isGroup_132 rfl (lv_at hl 2 rfl) ?_
    refine lv_iload_n hx hb dL_isGroup_133 rfl (lv_at hl 3 rfl) ?_
    refine lv_iload hx hb dL_isGroup_134 (lv_at hl 4 rfl) ?_
    obtain ⟨u_7, hu_7, h⟩ := bd_ex h
    have hP : va_P G.1 vwCl ([] ++ (CW G q C ++ (NL2 G q C))) _ := hP
    have hD : va_D A ([] ++ (CW G q C ++ (NL2 G q C))) := hD
    refine wf_i (Wd := CW G q) [] (NL2 G q C) (vx_runSW (As := [.ref (q 0), .int x2, .int x3, .int x4]) (rest := []) ⟨hx, hb, hml, hown, hts⟩ (kL_setGroup l hl0 G q C _ x2 x3 x4 u_7 hu_7) (vx_cwSW 4 hts gL_isGroup_L_setGroup rfl rfl rfl (by decide +kernel) ⟨Nat.le_of_ble_eq_true rfl, Nat.le_of_ble_eq_true rfl⟩) (xS (fr_mid [] (NL2 G q C) hP) (fr_midD [] (NL2 G q C) hD) hS hK hA hE) rfl rfl hl.1 rfl (lv_room (Nat.le_of_ble_eq_true rfl)) dL_isGroup_136 ⟨Nat.le_of_ble_eq_true rfl, Nat.le_of_ble_eq_true rfl⟩) hP hD hS hA (fun _ => rfl) (fun H locs hP hD hS => ?_)
    rw [← LX_mg] at hP hD
    obtain ⟨C_8, eC_8, h⟩ := ltv_ex h
    rw [← eC_8] at hP hD
    refine lv_iload hx hb dL_isGroup_139 (lv_at hl 5 rfl) ?_
    refine lv_icmp_ne (tgt := 148) hx hb dL_isGroup_141 (by decide) (fun c_141 => ?_) (fun c_141 => ?_)
    · have h := br_F h c_141
      refine lv_iconst (v := 0) hx hb dL_isGroup_148 (by decide) ?_
      exact MYi.end (Wd := LW G q) hx hb hr hlocks (hP.sub (ws' := LW G q C_8) [0, 1, 2, 3, 4, 5, 6, 7, 8, 9, 10, 11, 12, 13, 14, 15, 16, 17, 18, 19, 20] rfl) hS dL_isGroup_149 rfl h
    · have h := br_T h c_141
      refine lv_iconst (v := 1) hx hb dL_isGroup_144 (by decide) ?_
      refine lv_goto (tgt := 149) hx hb dL_isGroup_145 (by decide) ?_
      exact MYi.end (Wd := LW G q) hx hb hr hlocks (hP.sub (ws' := LW G q C_8) [0, 1, 2, 3, 4, 5, 6, 7, 8, 9, 10, 11, 12, 13, 14, 15, 16, 17, 18, 19, 20] rfl) hS dL_isGroup_149 rfl h
  · have h := br_F h c_101
    refine lv_iload hx hb dL_isGroup_104 (lv_at hl 5 rfl) ?_
    refine lv_aload_n hx hb dL_isGroup_106 rfl (lv_at hl 1 rfl) ?_
    refine lv_bipush (v := 10) hx hb dL_isGroup_107 (by decide) ?_
    refine lv_iload hx hb dL_isGroup_109 (lv_at hl 6 rfl) ?_
    refine lv_iadd hx hb dL_isGroup_111 ?_
    obtain ⟨g112, h⟩ := gd_ex h
    refine va_iald (D := G.1) hx hb hK.1 hP 20 0 rfl rfl g112 dL_isGroup_112 ?_
    refine lv_iload_n hx hb dL_isGroup_113 rfl (lv_at hl 2 rfl) ?_
    refine lv_icmp_ne (tgt := 121) hx hb dL_isGroup_114 (by decide) (fun c_114 => ?_) (fun c_114 => ?_)
    · have h := br_F h c_114
      refine lv_iconst (v := 0) hx hb dL_isGroup_121 (by decide) ?_
      exact wL_isGroup_122 bx hA hK hl0 hE hk96 C x2 x3 x4 x7 x6 0 h hP hD hS _ (lv_sub hl [0, 1, 2, 3, 4, 6] rfl)
    · have h := br_T h c_114
      refine lv_iconst (v := 1) hx hb dL_isGroup_117 (by decide) ?_
      refine lv_goto (tgt := 122) hx hb dL_isGroup_118 (by decide) ?_
      exact wL_isGroup_122 bx hA hK hl0 hE hk96 C x2 x3 x4 x7 x6 1 h hP hD hS _ (lv_sub hl [0, 1, 2, 3, 4, 6] rfl)

theorem wL_isGroup_96 {p : Program} {l : Launch} {e : Env} {s : State} {m : MethodId} {args : Array Value} {below : List Frame} {meth : Method} {c : Code} {G : GT} {q : Nat → Nat} {A : Nat → Prop} {out : Int32 × St} (bx : BX p RL wsL_isGroup cL_isGroup 8 (some .boolean) s m args meth c) (hA : ∀ q : Nat, s.heap.size ≤ q → A q) (hK : CK G s) (hl0 : l.stackTraces = false) (hE : XE A s) :
    ∀ (n : Nat) (C : St) (x2 : Int32) (x3 : Int32) (x4 : Int32) (x6 : Int32) (x7 : Int32), pL_isGroup_96 n C x2 x3 x4 x6 x7 = some out → ∀ (H : Heap) (locs : List Loc) (hP : va_P G.1 vwCl (LX G q C) H) (hD : va_D A (LX G q C)) (hS : va_S A s.heap H locs), ∀ (ls : Array Slot), lv_has ls 8 [(0, .ref (q 0)), (1, .ref (q 20)), (2, .int x2), (3, .int x3), (4, .int x4), (6, .int x6), (7, .int x7)] → W p l e rmL_isGroup s m args below meth c H locs 1 250 (MYi G (LW G q) A s args below out 2 256) (F0 m 96 ls []) := by
  intro n
  induction n with
  | zero => intro _ _ _ _ _ _ h; cases h
  | succ n ih => exact fun a0 a1 a2 a3 a4 a5 h _ _ hP hD hS ls hl => wL_isGroup_96_b bx hA hK hl0 hE ih a0 a1 a2 a3 a4 a5 h hP hD hS ls hl

set_option maxHeartbeats 4000000 in
set_option maxRecDepth 100000 in
theorem kL_isGroup (l : Launch) (hl0 : l.stackTraces = false) (G : GT) (q : Nat → Nat) (C : St) (sz : Nat) (x2 : Int32) (x3 : Int32) (x4 : Int32) (r : Int32 × St) (h : pL_isGroup C x2 x3 x4 = some r) : Met l yL_isGroup wsL_isGroup rmL_isGroup (va_Pc [.ref (q 0), .ref (q 20), .int x2, .int x3, .int x4] (xP G (LW G q C) sz)) (va_Qi (fun v u => (v, u) = r) (fun u t => va_P G.1 vwCl (LW G q u) t.heap) (va_A (LW G q C) sz)) 2 256 (va_A (LW G q C) sz) := by
  refine Met.ofW (cc := cL_isGroup) (maxL := 8) (ret := (some .boolean)) (by decide) rfl ?_
  intro p e s m args below meth c s₁ B hml hv
  obtain ⟨rfl, ⟨hsz, hP, hK, hD0⟩, hE⟩ := hv
  have bx := bx_of B hml
  subst hsz
  have hD := hD0.self (sz := s.heap.size)
  generalize hAe : va_A (LW G q C) s.heap.size = A at hD hE ⊢
  have hA : ∀ q : Nat, s.heap.size ≤ q → A q := fun q h => by rw [← hAe]; exact Or.inr h
  have hS : va_S A s.heap s.heap [] := va_S.rf
  obtain ⟨hx, hb, hr, hts, hown, hml, hlocks⟩ := id bx
  have hl := lv_entry ([.ref (q 0), .ref (q 20), .int x2, .int x3, .int x4]) (n := 8) (Nat.le_of_ble_eq_true rfl)
  rw [lg_entry_eq]
  generalize (lg_sl ([.ref (q 0), .ref (q 20), .int x2, .int x3, .int x4]) ++ List.replicate (8 - (lg_sl ([.ref (q 0), .ref (q 20), .int x2, .int x3, .int x4])).length) Slot.unset).toArray = ls at hl ⊢
  have hl : lv_has ls 8 [(0, .ref (q 0)), (1, .ref (q 20)), (2, .int x2), (3, .int x3), (4, .int x4)] := hl
  show W p l e rmL_isGroup s m _ below meth c s.heap [] 0 0 (MYi G (LW G q) A s _ below r 2 256) (F0 m 0 ls [])
  unfold pL_isGroup at h
  refine lv_aload_n hx hb dL_isGroup_0 rfl (lv_at hl 1 rfl) ?_
  refine cp_call (va_runS (As := [.ref (q 20)]) (rest := []) ⟨hx, hb, hml, hown, hts⟩ (kL_copy l G q C _) (va_cwS 1 hts gL_isGroup_L_copy rfl rfl rfl (by decide +kernel) ⟨Nat.le_of_ble_eq_true rfl, Nat.le_of_ble_eq_true rfl⟩) (wrS (hP.sub (ws' := NW G q C) [20] rfl) (hD.sub (ws' := NW G q C) [20] (by decide) rfl) hK) rfl rfl hl.1 rfl (lv_room (Nat.le_of_ble_eq_true rfl)) dL_isGroup_1 ⟨Nat.le_of_ble_eq_true rfl, Nat.le_of_ble_eq_true rfl⟩) hP hD hS hA (fun q1 H locs hq hP hD hS => ?_)
  have hW0 : LW G q1 = LW G q := LW_q hq
  rw [← hW0]
  rw [← hq 0 (by decide), ← hq 20 (by decide)] at hl
  obtain ⟨C_1, eC_1, h⟩ := ltv_ex h
  rw [← eC_1] at hP hD
  refine lv_astore (lv' := [(5, .ref (q1 21)), (0, .ref (q1 0)), (1, .ref (q1 20)), (2, .int x2), (3, .int x3), (4, .int x4)]) hx hb dL_isGroup_4 hl (by decide) rfl (fun ls hl => ?_)
  refine lv_aload hx hb dL_isGroup_6 (lv_at hl 0 rfl) ?_
  refine lv_bipush (v := 50) hx hb dL_isGroup_8 (by decide) ?_
  refine lv_iload_n hx hb dL_isGroup_10 rfl (lv_at hl 3 rfl) ?_
  refine lv_iadd hx hb dL_isGroup_11 ?_
  refine lv_iload_n hx hb dL_isGroup_12 rfl (lv_at hl 4 rfl) ?_
  obtain ⟨g13, h⟩ := gd_ex h
  refine va_iast (D := G.1) hx hb hK.1 hP hD hS 21 0 rfl rfl g13 dL_isGroup_13 (fun H locs hP hD hS => ?_)
  have hP : va_P G.1 vwCl (LX G q1 (sA C_1 15 (50 + x2).toNatClampNeg x3)) H := hP
  have hD : va_D A (LX G q1 (sA C_1 15 (50 + x2).toNatClampNeg x3)) := hD
  obtain ⟨C_2, eC_2, h⟩ := ltv_ex h
  rw [← eC_2] at hP hD
  refine lv_aload hx hb dL_isGroup_14 (lv_at hl 0 rfl) ?_
  refine lv_bipush (v := 70) hx hb dL_isGroup_16 (by decide) ?_
  refine lv_iload_n hx hb dL_isGroup_18 rfl (lv_at hl 3 rfl) ?_
  refine lv_iadd hx hb dL_isGroup_19 ?_
  refine lv_iload hx hb dL_isGroup_20 (lv_at hl 5 rfl) ?_
  obtain ⟨g22, h⟩ := gd_ex h
  refine va_iast (D := G.1) hx hb hK.1 hP hD hS 21 0 rfl rfl g22 dL_isGroup_22 (fun H locs hP hD hS => ?_)
  have hP : va_P G.1 vwCl (LX G q1 (sA C_2 15 (70 + x2).toNatClampNeg x4)) H := hP
  have hD : va_D A (LX G q1 (sA C_2 15 (70 + x2).toNatClampNeg x4)) := hD
  obtain ⟨C_3, eC_3, h⟩ := ltv_ex h
  rw [← eC_3] at hP hD
  refine lv_iload hx hb dL_isGroup_23 (lv_at hl 5 rfl) ?_
  refine lv_iload_n hx hb dL_isGroup_25 rfl (lv_at hl 4 rfl) ?_
  refine lv_icmp_ge (tgt := 48) hx hb dL_isGroup_26 (by decide) (fun c_26 => ?_) (fun c_26 => ?_)
  · have h := br_T h c_26
    refine lv_aload hx hb dL_isGroup_48 (lv_at hl 0 rfl) ?_
    obtain ⟨r_4, hr_4, h⟩ := bd_ex h
    refine ro_i (va_runS (As := [.ref (q1 21)]) (rest := []) ⟨hx, hb, hml, hown, hts⟩ (kL_isPossible l G (fun _ => q1 21) (nx C_3) r_4 hr_4) (va_cwS 1 hts gL_isGroup_L_isPossible rfl rfl rfl (by decide +kernel) ⟨Nat.le_of_ble_eq_true rfl, Nat.le_of_ble_eq_true rfl⟩) (roS (hP.sub (ws' := NW G (fun _ => q1 21) (nx C_3)) [21] rfl) hK) rfl rfl hl.1 rfl (lv_room (Nat.le_of_ble_eq_true rfl)) dL_isGroup_50 ⟨Nat.le_of_ble_eq_true rfl, Nat.le_of_ble_eq_true rfl⟩) ?_
    refine lv_if_ne (tgt := 75) hx hb dL_isGroup_53 (by decide) (fun c_53 => ?_) (fun c_53 => ?_)
    · have h := br_F h c_53
      refine lv_aload_n hx hb dL_isGroup_75 rfl (lv_at hl 2 rfl) ?_
      refine lv_bipush (v := 50) hx hb dL_isGroup_76 (by decide) ?_
      refine lv_iload_n hx hb dL_isGroup_78 rfl (lv_at hl 3 rfl) ?_
      refine lv_iadd hx hb dL_isGroup_79 ?_
      refine lv_iload_n hx hb dL_isGroup_80 rfl (lv_at hl 4 rfl) ?_
      obtain ⟨g81, h⟩ := gd_ex h
      refine va_iast (D := G.1) hx hb hK.1 hP hD hS 20 0 rfl rfl g81 dL_isGroup_81 (fun H locs hP hD hS => ?_)
      have hP : va_P G.1 vwCl (LX G q1 (sA C_3 14 (50 + x2).toNatClampNeg x3)) H := hP
      have hD : va_D A (LX G q1 (sA C_3 14 (50 + x2).toNatClampNeg x3)) := hD
      obtain ⟨C_5, eC_5, h⟩ := ltv_ex h
      rw [← eC_5] at hP hD
      refine lv_aload_n hx hb dL_isGroup_82 rfl (lv_at hl 2 rfl) ?_
      refine lv_bipush (v := 70) hx hb dL_isGroup_83 (by decide) ?_
      refine lv_iload_n hx hb dL_isGroup_85 rfl (lv_at hl 3 rfl) ?_
      refine lv_iadd hx hb dL_isGroup_86 ?_
      refine lv_iload hx hb dL_isGroup_87 (lv_at hl 5 rfl) ?_
      obtain ⟨g89, h⟩ := gd_ex h
      refine va_iast (D := G.1) hx hb hK.1 hP hD hS 20 0 rfl rfl g89 dL_isGroup_89 (fun H locs hP hD hS => ?_)
      have hP : va_P G.1 vwCl (LX G q1 (sA C_5 14 (70 + x2).toNatClampNeg x4)) H := hP
      have hD : va_D A (LX G q1 (sA C_5 14 (70 + x2).toNatClampNeg x4)) := hD
      obtain ⟨C_6, eC_6, h⟩ := ltv_ex h
      rw [← eC_6] at hP hD
      refine lv_iconst (v := 0) hx hb dL_isGroup_90 (by decide) ?_
      refine lv_istore (lv' := [(6, .int 0), (5, .ref (q1 21)), (0, .ref (q1 0)), (1, .ref (q1 20)), (2, .int x2), (3, .int x3), (4, .int x4)]) hx hb dL_isGroup_91 hl (by decide) rfl (fun ls hl => ?_)
      refine lv_iconst (v := 1) hx hb dL_isGroup_93 (by decide) ?_
      refine lv_istore (lv' := [(7, .int 1), (6, .int 0), (5, .ref (q1 21)), (0, .ref (q1 0)), (1, .ref (q1 20)), (2, .int x2), (3, .int x3), (4, .int x4)]) hx hb dL_isGroup_94 hl (by decide) rfl (fun ls hl => ?_)
      exact wL_isGroup_96 bx hA hK hl0 hE FU C_6 x2 x3 x4 0 1 h _ _ hP hD hS _ (lv_sub hl [3, 4, 5, 6, 7, 1, 0] rfl)
    · have h := br_T h c_53
      refine lv_aload_n hx hb dL_isGroup_56 rfl (lv_at hl 1 rfl) ?_
      refine lv_iload_n hx hb dL_isGroup_57 rfl (lv_at hl 3 rfl) ?_
      refine lv_iload_n hx hb dL_isGroup_58 rfl (lv_at hl 4 rfl) ?_
      refine lv_iload hx hb dL_isGroup_59 (lv_at hl 5 rfl) ?_
      obtain ⟨u_11, hu_11, h⟩ := bd_ex h
      have hP : va_P G.1 vwCl ([] ++ (CW G q1 C_3 ++ (NL2 G q1 C_3))) _ := hP
      have hD : va_D A ([] ++ (CW G q1 C_3 ++ (NL2 G q1 C_3))) := hD
      refine wf_i (Wd := CW G q1) [] (NL2 G q1 C_3) (vx_runSW (As := [.ref (q1 0), .int x2, .int x3, .int x4]) (rest := []) ⟨hx, hb, hml, hown, hts⟩ (kL_setGroup l hl0 G q1 C_3 _ x2 x3 x4 u_11 hu_11) (vx_cwSW 4 hts gL_isGroup_L_setGroup rfl rfl rfl (by decide +kernel) ⟨Nat.le_of_ble_eq_true rfl, Nat.le_of_ble_eq_true rfl⟩) (xS (fr_mid [] (NL2 G q1 C_3) hP) (fr_midD [] (NL2 G q1 C_3) hD) hS hK hA hE) rfl rfl hl.1 rfl (lv_room (Nat.le_of_ble_eq_true rfl)) dL_isGroup_61 ⟨Nat.le_of_ble_eq_true rfl, Nat.le_of_ble_eq_true rfl⟩) hP hD hS hA (fun _ => rfl) (fun H locs hP hD hS => ?_)
      rw [← LX_mg] at hP hD
      obtain ⟨C_12, eC_12, h⟩ := ltv_ex h
      rw [← eC_12] at hP hD
      refine lv_ldc (own := RL) (v := -900003) hx hb hown (w_mem hts 2 rfl) dL_isGroup_64 ?_
      refine lv_icmp_ne (tgt := 73) hx hb dL_isGroup_66 (by decide) (fun c_66 => ?_) (fun c_66 => ?_)
      · have h := br_F h c_66
        refine lv_iconst (v := 0) hx hb dL_isGroup_73 (by decide) ?_
        exact MYi.end (Wd := LW G q1) hx hb hr hlocks (hP.sub (ws' := LW G q1 C_12) [0, 1, 2, 3, 4, 5, 6, 7, 8, 9, 10, 11, 12, 13, 14, 15, 16, 17, 18, 19, 20] rfl) hS dL_isGroup_74 rfl h
      · have h := br_T h c_66
        refine lv_iconst (v := 1) hx hb dL_isGroup_69 (by decide) ?_
        refine lv_goto (tgt := 74) hx hb dL_isGroup_70 (by decide) ?_
        exact MYi.end (Wd := LW G q1) hx hb hr hlocks (hP.sub (ws' := LW G q1 C_12) [0, 1, 2, 3, 4, 5, 6, 7, 8, 9, 10, 11, 12, 13, 14, 15, 16, 17, 18, 19, 20] rfl) hS dL_isGroup_74 rfl h
  · have h := br_F h c_26
    refine lv_aload_n hx hb dL_isGroup_29 rfl (lv_at hl 1 rfl) ?_
    refine lv_iload_n hx hb dL_isGroup_30 rfl (lv_at hl 3 rfl) ?_
    refine lv_iload_n hx hb dL_isGroup_31 rfl (lv_at hl 4 rfl) ?_
    refine lv_iload hx hb dL_isGroup_32 (lv_at hl 5 rfl) ?_
    obtain ⟨u_13, hu_13, h⟩ := bd_ex h
    have hP : va_P G.1 vwCl ([] ++ (CW G q1 C_3 ++ (NL2 G q1 C_3))) _ := hP
    have hD : va_D A ([] ++ (CW G q1 C_3 ++ (NL2 G q1 C_3))) := hD
    refine wf_i (Wd := CW G q1) [] (NL2 G q1 C_3) (vx_runSW (As := [.ref (q1 0), .int x2, .int x3, .int x4]) (rest := []) ⟨hx, hb, hml, hown, hts⟩ (kL_setGroup l hl0 G q1 C_3 _ x2 x3 x4 u_13 hu_13) (vx_cwSW 4 hts gL_isGroup_L_setGroup rfl rfl rfl (by decide +kernel) ⟨Nat.le_of_ble_eq_true rfl, Nat.le_of_ble_eq_true rfl⟩) (xS (fr_mid [] (NL2 G q1 C_3) hP) (fr_midD [] (NL2 G q1 C_3) hD) hS hK hA hE) rfl rfl hl.1 rfl (lv_room (Nat.le_of_ble_eq_true rfl)) dL_isGroup_34 ⟨Nat.le_of_ble_eq_true rfl, Nat.le_of_ble_eq_true rfl⟩) hP hD hS hA (fun _ => rfl) (fun H locs hP hD hS => ?_)
    rw [← LX_mg] at hP hD
    obtain ⟨C_14, eC_14, h⟩ := ltv_ex h
    rw [← eC_14] at hP hD
    refine lv_ldc (own := RL) (v := -900002) hx hb hown (w_mem hts 1 rfl) dL_isGroup_37 ?_
    refine lv_icmp_ne (tgt := 46) hx hb dL_isGroup_39 (by decide) (fun c_39 => ?_) (fun c_39 => ?_)
    · have h := br_F h c_39
      refine lv_iconst (v := 0) hx hb dL_isGroup_46 (by decide) ?_
      exact MYi.end (Wd := LW G q1) hx hb hr hlocks (hP.sub (ws' := LW G q1 C_14) [0, 1, 2, 3, 4, 5, 6, 7, 8, 9, 10, 11, 12, 13, 14, 15, 16, 17, 18, 19, 20] rfl) hS dL_isGroup_47 rfl h
    · have h := br_T h c_39
      refine lv_iconst (v := 1) hx hb dL_isGroup_42 (by decide) ?_
      refine lv_goto (tgt := 47) hx hb dL_isGroup_43 (by decide) ?_
      exact MYi.end (Wd := LW G q1) hx hb hr hlocks (hP.sub (ws' := LW G q1 C_14) [0, 1, 2, 3, 4, 5, 6, 7, 8, 9, 10, 11, 12, 13, 14, 15, 16, 17, 18, 19, 20] rfl) hS dL_isGroup_47 rfl h
