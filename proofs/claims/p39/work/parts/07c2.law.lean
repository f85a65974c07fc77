def rmL_isMandatory : Room := { frames := 20, cells := 2, slots := 256, locals := 501 }

set_option maxHeartbeats 4000000 in
set_option maxRecDepth 100000 in
theorem wL_isMandatory_42 {p : Program} {l : Launch} {e : Env} {s : State} {m : MethodId} {args : Array Value} {below : List Frame} {meth : Method} {c : Code} {G : GT} {q : Nat → Nat} {A : Nat → Prop} {out : Int32 × St} (bx : BX p RL wsL_isMandatory cL_isMandatory 6 (some .boolean) s m args meth c) (hA : ∀ q : Nat, s.heap.size ≤ q → A q) (hK : CK G s) (hl0 : l.stackTraces = false) (hE : XE A s) (C : St) (x2 : Int32) (x3 : Int32) (t1 : Int32) (t2 : Int32) (h : pL_isMandatory_42 C x2 x3 t1 t2 = some out) {H : Heap} {locs : List Loc} (hP : va_P G.1 vwCl (LX G q C) H) (hD : va_D A (LX G q C)) (hS : va_S A s.heap H locs) (ls : Array Slot) (hl : lv_has ls 6 [(0, .ref (q 0)), (1, .ref (q 20)), (2, .int x2), (3, .int x3), (4, .ref (q 21))]) : W p l e rmL_isMandatory s m args below meth c H locs 1 250 (MYi G (LW G q) A s args below out 2 256) (F0 m 42 ls [.int t2, .int t1, .ref (q 21)]) := by
  obtain ⟨hx, hb, hr, hts, hown, hml, hlocks⟩ := id bx
  unfold pL_isMandatory_42 at h
  obtain ⟨g42, h⟩ := gd_ex h
  refine va_iast (D := G.1) hx hb hK.1 hP hD hS 21 0 rfl rfl g42 dL_isMandatory_42 (fun H locs hP hD hS => ?_)
  have hP : va_P G.1 vwCl (LX G q (sA C 15 t1.toNatClampNeg t2)) H := hP
  have hD : va_D A (LX G q (sA C 15 t1.toNatClampNeg t2)) := hD
  obtain ⟨C_2, eC_2, h⟩ := ltv_ex h
  rw [← eC_2] at hP hD
  refine lv_aload hx hb dL_isMandatory_43 (lv_at hl 4 rfl) ?_
  obtain ⟨r_3, hr_3, h⟩ := bd_ex h
  refine ro_i (va_runS (As := [.ref (q 21)]) (rest := []) ⟨hx, hb, hml, hown, hts⟩ (kL_isPossible l G (fun _ => q 21) (nx C_2) r_3 hr_3) (va_cwS 1 hts gL_isMandatory_L_isPossible rfl rfl rfl (by decide +kernel) ⟨Nat.le_of_ble_eq_true rfl, Nat.le_of_ble_eq_true rfl⟩) (roS (hP.sub (ws' := NW G (fun _ => q 21) (nx C_2)) [21] rfl) hK) rfl rfl hl.1 rfl (lv_room (Nat.le_of_ble_eq_true rfl)) dL_isMandatory_45 ⟨Nat.le_of_ble_eq_true rfl, Nat.le_of_ble_eq_true rfl⟩) ?_
  refine lv_if_ne (tgt := 68) hx hb dL_isMandatory_48 (by decide) (fun c_48 => ?_) (fun c_48 => ?_)
  · have h := br_F h c_48
    refine lv_aload_n hx hb dL_isMandatory_68 rfl (lv_at hl 1 rfl) ?_
    refine lv_bipush (v := 90) hx hb dL_isMandatory_69 (by decide) ?_
    refine lv_iload_n hx hb dL_isMandatory_71 rfl (lv_at hl 2 rfl) ?_
    refine lv_iadd hx hb dL_isMandatory_72 ?_
    obtain ⟨g73, h⟩ := gd_ex h
    refine va_iald (D := G.1) hx hb hK.1 hP 20 0 rfl rfl g73 dL_isMandatory_73 ?_
    refine lv_topi (fun v_4 ev_4 => ?_)
    have h := ltv_at h v_4 ev_4
    refine lv_istore (lv' := [(5, .int v_4), (0, .ref (q 0)), (1, .ref (q 20)), (2, .int x2), (3, .int x3), (4, .ref (q 21))]) hx hb dL_isMandatory_74 hl (by decide) rfl (fun ls hl => ?_)
    refine lv_aload_n hx hb dL_isMandatory_76 rfl (lv_at hl 2 rfl) ?_
    refine lv_bipush (v := 90) hx hb dL_isMandatory_77 (by decide) ?_
    refine lv_iload_n hx hb dL_isMandatory_79 rfl (lv_at hl 3 rfl) ?_
    refine lv_iadd hx hb dL_isMandatory_80 ?_
    refine lv_aload hx hb dL_isMandatory_81 (lv_at hl 5 rfl) ?_
    refine lv_bipush (v := 90) hx hb dL_isMandatory_83 (by decide) ?_
    refine lv_iload_n hx hb dL_isMandatory_85 rfl (lv_at hl 3 rfl) ?_
    refine lv_iadd hx hb dL_isMandatory_86 ?_
    obtain ⟨g87, h⟩ := gd_ex h
    refine va_iald (D := G.1) hx hb hK.1 hP 21 0 rfl rfl g87 dL_isMandatory_87 ?_
    obtain ⟨g88, h⟩ := gd_ex h
    refine va_iast (D := G.1) hx hb hK.1 hP hD hS 20 0 rfl rfl g88 dL_isMandatory_88 (fun H locs hP hD hS => ?_)
    have hP : va_P G.1 vwCl (LX G q (sA C_2 14 (90 + x2).toNatClampNeg (C_2.2 15 (90 + x2).toNatClampNeg))) H := hP
    have hD : va_D A (LX G q (sA C_2 14 (90 + x2).toNatClampNeg (C_2.2 15 (90 + x2).toNatClampNeg))) := hD
    obtain ⟨C_5, eC_5, h⟩ := ltv_ex h
    rw [← eC_5] at hP hD
    refine lv_aload_n hx hb dL_isMandatory_89 rfl (lv_at hl 1 rfl) ?_
    refine lv_iload_n hx hb dL_isMandatory_90 rfl (lv_at hl 3 rfl) ?_
    refine lv_iload_n hx hb dL_isMandatory_91 rfl (lv_at hl 4 rfl) ?_
    obtain ⟨u_6, hu_6, h⟩ := bd_ex h
    have hP : va_P G.1 vwCl ([] ++ (CW G q C_5 ++ (NL2 G q C_5))) _ := hP
    have hD : va_D A ([] ++ (CW G q C_5 ++ (NL2 G q C_5))) := hD
    refine wf_i (Wd := CW G q) [] (NL2 G q C_5) (vx_runSW (As := [.ref (q 0), .int x2, .int x3]) (rest := []) ⟨hx, hb, hml, hown, hts⟩ (kL_setMandatory l hl0 G q C_5 _ x2 x3 u_6 hu_6) (vx_cwSW 3 hts gL_isMandatory_L_setMandatory rfl rfl rfl (by decide +kernel) ⟨Nat.le_of_ble_eq_true rfl, Nat.le_of_ble_eq_true rfl⟩) (xS (fr_mid [] (NL2 G q C_5) hP) (fr_midD [] (NL2 G q C_5) hD) hS hK hA hE) rfl rfl hl.1 rfl (lv_room (Nat.le_of_ble_eq_true rfl)) dL_isMandatory_92 ⟨Nat.le_of_ble_eq_true rfl, Nat.le_of_ble_eq_true rfl⟩) hP hD hS hA (fun _ => rfl) (fun H locs hP hD hS => ?_)
    rw [← LX_mg] at hP hD
    obtain ⟨C_7, eC_7, h⟩ := ltv_ex h
    rw [← eC_7] at hP hD
    refine lv_iload hx hb dL_isMandatory_95 (lv_at hl 0 rfl) ?_
    refine lv_icmp_ne (tgt := 104) hx hb dL_isMandatory_97 (by decide) (fun c_97 => ?_) (fun c_97 => ?_)
    · have h := br_F h c_97
      refine lv_iconst (v := 0) hx hb dL_isMandatory_104 (by decide) ?_
      exact MYi.end (Wd := LW G q) hx hb hr hlocks (hP.sub (ws' := LW G q C_7) [0, 1, 2, 3, 4, 5, 6, 7, 8, 9, 10, 11, 12, 13, 14, 15, 16, 17, 18, 19, 20] rfl) hS dL_isMandatory_105 rfl h
    · have h := br_T h c_97
      refine lv_iconst (v := 1) hx hb dL_isMandatory_100 (by decide) ?_
      refine lv_goto (tgt := 105) hx hb dL_isMandatory_101 (by decide) ?_
      exact MYi.end (Wd := LW G q) hx hb hr hlocks (hP.sub (ws' := LW G q C_7) [0, 1, 2, 3, 4, 5, 6, 7, 8, 9, 10, 11, 12, 13, 14, 15, 16, 17, 18, 19, 20] rfl) hS dL_isMandatory_105 rfl h
  · have h := br_T h c_48
    refine lv_aload_n hx hb dL_isMandatory_51 rfl (lv_at hl 0 rfl) ?_
    refine lv_iload_n hx hb dL_isMandatory_52 rfl (lv_at hl 2 rfl) ?_
    refine lv_iload_n hx hb dL_isMandatory_53 rfl (lv_at hl 3 rfl) ?_
    obtain ⟨u_8, hu_8, h⟩ := bd_ex h
    have hP : va_P G.1 vwCl ([] ++ (CW G q C_2 ++ (NL2 G q C_2))) _ := hP
    have hD : va_D A ([] ++ (CW G q C_2 ++ (NL2 G q C_2))) := hD
    refine wf_i (Wd := CW G q) [] (NL2 G q C_2) (vx_runSW (As := [.ref (q 0), .int x2, .int x3]) (rest := []) ⟨hx, hb, hml, hown, hts⟩ (kL_setMandatory l hl0 G q C_2 _ x2 x3 u_8 hu_8) (vx_cwSW 3 hts gL_isMandatory_L_setMandatory rfl rfl rfl (by decide +kernel) ⟨Nat.le_of_ble_eq_true rfl, Nat.le_of_ble_eq_true rfl⟩) (xS (fr_mid [] (NL2 G q C_2) hP) (fr_midD [] (NL2 G q C_2) hD) hS hK hA hE) rfl rfl hl.1 rfl (lv_room (Nat.le_of_ble_eq_true rfl)) dL_isMandatory_54 ⟨Nat.le_of_ble_eq_true rfl, Nat.le_of_ble_eq_true rfl⟩) hP hD hS hA (fun _ => rfl) (fun H locs hP hD hS => ?_)
    rw [← LX_mg] at hP hD
    obtain ⟨C_9, eC_9, h⟩ := ltv_ex h
    rw [← eC_9] at hP hD
    refine lv_ldc (own := RL) (v := -900003) hx hb hown (w_mem hts 2 rfl) dL_isMandatory_57 ?_
    refine lv_icmp_ne (tgt := 66) hx hb dL_isMandatory_59 (by decide) (fun c_59 => ?_) (fun c_59 => ?_)
    · have h := br_F h c_59
      refine lv_iconst (v := 0) hx hb dL_isMandatory_66 (by decide) ?_
      exact MYi.end (Wd := LW G q) hx hb hr hlocks (hP.sub (ws' := LW G q C_9) [0, 1, 2, 3, 4, 5, 6, 7, 8, 9, 10, 11, 12, 13, 14, 15, 16, 17, 18, 19, 20] rfl) hS dL_isMandatory_67 rfl h
    · have h := br_T h c_59
      refine lv_iconst (v := 1) hx hb dL_isMandatory_62 (by decide) ?_
      refine lv_goto (tgt := 67) hx hb dL_isMandatory_63 (by decide) ?_
      exact MYi.end (Wd := LW G q) hx hb hr hlocks (hP.sub (ws' := LW G q C_9) [0, 1, 2, 3, 4, 5, 6, 7, 8, 9, 10, 11, 12, 13, 14, 15, 16, 17, 18, 19, 20] rfl) hS dL_isMandatory_67 rfl h

set_option maxHeartbeats 4000000 in
set_option maxRecDepth 100000 in
theorem kL_isMandatory (l : Launch) (hl0 : l.stackTraces = false) (G : GT) (q : Nat → Nat) (C : St) (sz : Nat) (x2 : Int32) (x3 : Int32) (r : Int32 × St) (h : pL_isMandatory C x2 x3 = some r) : Met l yL_isMandatory wsL_isMandatory rmL_isMandatory (va_Pc [.ref (q 0), .ref (q 20), .int x2, .int x3] (xP G (LW G q C) sz)) (va_Qi (fun v u => (v, u) = r) (fun u t => va_P G.1 vwCl (LW G q u) t.heap) (va_A (LW G q C) sz)) 2 256 (va_A (LW G q C) sz) := by
  refine Met.ofW (cc := cL_isMandatory) (maxL := 6) (ret := (some .boolean)) (by decide) rfl ?_
  intro p e s m args below meth c s₁ B hml hv
  obtain ⟨rfl, ⟨hsz, hP, hK, hD0⟩, hE⟩ := hv
  have bx := bx_of B hml
  subst hsz
  have hD := hD0.self (sz := s.heap.size)
  generalize hAe : va_A (LW G q C) s.heap.size = A at hD hE ⊢
  have hA : ∀ q : Nat, s.heap.size ≤ q → A q := fun q h => by rw [← hAe]; exact Or.inr h
  have hS : va_S A s.heap s.heap [] := va_S.rf
  obtain ⟨hx, hb, hr, hts, hown, hml, hlocks⟩ := id bx
  have hl := lv_entry ([.ref (q 0), .ref (q 20), .int x2, .int x3]) (n := 6) (Nat.le_of_ble_eq_true rfl)
  rw [lg_entry_eq]
  generalize (lg_sl ([.ref (q 0), .ref (q 20), .int x2, .int x3]) ++ List.replicate (6 - (lg_sl ([.ref (q 0), .ref (q 20), .int x2, .int x3])).length) Slot.unset).toArray = ls at hl ⊢
  have hl : lv_has ls 6 [(0, .ref (q 0)), (1, .ref (q 20)), (2, .int x2), (3, .int x3)] := hl
  show W p l e rmL_isMandatory s m _ below meth c s.heap [] 0 0 (MYi G (LW G q) A s _ below r 2 256) (F0 m 0 ls [])
  unfold pL_isMandatory at h
  refine lv_iload_n hx hb dL_isMandatory_0 rfl (lv_at hl 2 rfl) ?_
  refine lv_if_ne (tgt := 21) hx hb dL_isMandatory_1 (by decide) (fun c_1 => ?_) (fun c_1 => ?_)
  · have h := br_F h c_1
    refine lv_aload_n hx hb dL_isMandatory_21 rfl (lv_at hl 1 rfl) ?_
    refine cp_call (va_runS (As := [.ref (q 20)]) (rest := []) ⟨hx, hb, hml, hown, hts⟩ (kL_copy l G q C _) (va_cwS 1 hts gL_isMandatory_L_copy rfl rfl rfl (by decide +kernel) ⟨Nat.le_of_ble_eq_true rfl, Nat.le_of_ble_eq_true rfl⟩) (wrS (hP.sub (ws' := NW G q C) [20] rfl) (hD.sub (ws' := NW G q C) [20] (by decide) rfl) hK) rfl rfl hl.1 rfl (lv_room (Nat.le_of_ble_eq_true rfl)) dL_isMandatory_22 ⟨Nat.le_of_ble_eq_true rfl, Nat.le_of_ble_eq_true rfl⟩) hP hD hS hA (fun q1 H locs hq hP hD hS => ?_)
    have hW0 : LW G q1 = LW G q := LW_q hq
    rw [← hW0]
    rw [← hq 0 (by decide), ← hq 20 (by decide)] at hl
    obtain ⟨C_1, eC_1, h⟩ := ltv_ex h
    rw [← eC_1] at hP hD
    refine lv_astore (lv' := [(4, .ref (q1 21)), (0, .ref (q1 0)), (1, .ref (q1 20)), (2, .int x2), (3, .int x3)]) hx hb dL_isMandatory_25 hl (by decide) rfl (fun ls hl => ?_)
    refine lv_aload hx hb dL_isMandatory_27 (lv_at hl 0 rfl) ?_
    refine lv_bipush (v := 90) hx hb dL_isMandatory_29 (by decide) ?_
    refine lv_iload_n hx hb dL_isMandatory_31 rfl (lv_at hl 3 rfl) ?_
    refine lv_iadd hx hb dL_isMandatory_32 ?_
    refine lv_iload_n hx hb dL_isMandatory_33 rfl (lv_at hl 4 rfl) ?_
    refine lv_if_eq (tgt := 41) hx hb dL_isMandatory_34 (by decide) (fun c_34 => ?_) (fun c_34 => ?_)
    · have h := br_T h c_34
      refine lv_iconst (v := 0) hx hb dL_isMandatory_41 (by decide) ?_
      exact wL_isMandatory_42 bx hA hK hl0 hE C_1 x2 x3 (90 + x2) 0 h hP hD hS _ (lv_sub hl [1, 2, 3, 4, 0] rfl)
    · have h := br_F h c_34
      refine lv_iconst (v := 1) hx hb dL_isMandatory_37 (by decide) ?_
      refine lv_goto (tgt := 42) hx hb dL_isMandatory_38 (by decide) ?_
      exact wL_isMandatory_42 bx hA hK hl0 hE C_1 x2 x3 (90 + x2) 1 h hP hD hS _ (lv_sub hl [1, 2, 3, 4, 0] rfl)
  · have h := br_T h c_1
    refine lv_aload_n hx hb dL_isMandatory_4 rfl (lv_at hl 0 rfl) ?_
    refine lv_iconst (v := 0) hx hb dL_isMandatory_5 (by decide) ?_
    refine lv_iload_n hx hb dL_isMandatory_6 rfl (lv_at hl 3 rfl) ?_
    obtain ⟨u_10, hu_10, h⟩ := bd_ex h
    have hP : va_P G.1 vwCl ([] ++ (CW G q C ++ (NL G q C))) _ := hP
    have hD : va_D A ([] ++ (CW G q C ++ (NL G q C))) := hD
    refine wf_i (Wd := CW G q) [] (NL G q C) (vx_runSW (As := [.ref (q 0), .int 0, .int x3]) (rest := []) ⟨hx, hb, hml, hown, hts⟩ (kL_setMandatory l hl0 G q C _ 0 x3 u_10 hu_10) (vx_cwSW 3 hts gL_isMandatory_L_setMandatory rfl rfl rfl (by decide +kernel) ⟨Nat.le_of_ble_eq_true rfl, Nat.le_of_ble_eq_true rfl⟩) (xS (fr_mid [] (NL G q C) hP) (fr_midD [] (NL G q C) hD) hS hK hA hE) rfl rfl hl.1 rfl (lv_room (Nat.le_of_ble_eq_true rfl)) dL_isMandatory_7 ⟨Nat.le_of_ble_eq_true rfl, Nat.le_of_ble_eq_true rfl⟩) hP hD hS hA (fun _ => rfl) (fun H locs hP hD hS => ?_)
    rw [← LW_mg] at hP hD
    obtain ⟨C_11, eC_11, h⟩ := ltv_ex h
    rw [← eC_11] at hP hD
    refine lv_ldc (own := RL) (v := -900002) hx hb hown (w_mem hts 1 rfl) dL_isMandatory_10 ?_
    refine lv_icmp_ne (tgt := 19) hx hb dL_isMandatory_12 (by decide) (fun c_12 => ?_) (fun c_12 => ?_)
    · have h := br_F h c_12
      refine lv_iconst (v := 0) hx hb dL_isMandatory_19 (by decide) ?_
      refine W.widen (k := 2) (n := 256) (Nat.le_of_ble_eq_true rfl) (Nat.le_of_ble_eq_true rfl) ?_
      exact MYi.end (Wd := LW G q) hx hb hr hlocks hP hS dL_isMandatory_20 rfl h
    · have h := br_T h c_12
      refine lv_iconst (v := 1) hx hb dL_isMandatory_15 (by decide) ?_
      refine lv_goto (tgt := 20) hx hb dL_isMandatory_16 (by decide) ?_
      refine W.widen (k := 2) (n := 256) (Nat.le_of_ble_eq_true rfl) (Nat.le_of_ble_eq_true rfl) ?_
      exact MYi.end (Wd := LW G q) hx hb hr hlocks hP hS dL_isMandatory_20 rfl h

def rmL_isRule : Room := { frames := 21, cells := 2, slots := 256, locals := 526 }

set_option maxHeartbeats 4000000 in
set_option maxRecDepth 100000 in
theorem wL_isRule_209 {p : Program} {l : Launch} {e : Env} {s : State} {m : MethodId} {args : Array Value} {below : List Frame} {meth : Method} {c : Code} {G : GT} {q : Nat → Nat} {A : Nat → Prop} {out : Int32 × St} (bx : BX p RL wsL_isRule cL_isRule 10 (some .boolean) s m args meth c) (hA : ∀ q : Nat, s.heap.size ≤ q → A q) (hK : CK G s) (hl0 : l.stackTraces = false) (hE : XE A s) (C : St) (x8 : Int32) (t0 : Int32) (h : pL_isRule_209 C x8 t0 = some out) {H : Heap} {locs : List Loc} (hP : va_P G.1 vwCl (LX G q C) H) (hD : va_D A (LX G q C)) (hS : va_S A s.heap H locs) (ls : Array Slot) (hl : lv_has ls 10 [(8, .int x8)]) : W p l e rmL_isRule s m args below meth c H locs 2 256 (MYi G (LW G q) A s args below out 2 256) (F0 m 209 ls [.int t0]) := by
  obtain ⟨hx, hb, hr, hts, hown, hml, hlocks⟩ := id bx
  unfold pL_isRule_209 at h
  refine lv_iload hx hb dL_isRule_209 (lv_at hl 0 rfl) ?_
  refine lv_icmp_ne (tgt := 218) hx hb dL_isRule_211 (by decide) (fun c_211 => ?_) (fun c_211 => ?_)
  · have h := br_F h c_211
    refine lv_iconst (v := 0) hx hb dL_isRule_218 (by decide) ?_
    exact MYi.end (Wd := LW G q) hx hb hr hlocks (hP.sub (ws' := LW G q C) [0, 1, 2, 3, 4, 5, 6, 7, 8, 9, 10, 11, 12, 13, 14, 15, 16, 17, 18, 19, 20] rfl) hS dL_isRule_219 rfl h
  · have h := br_T h c_211
    refine lv_iconst (v := 1) hx hb dL_isRule_214 (by decide) ?_
    refine lv_goto (tgt := 219) hx hb dL_isRule_215 (by decide) ?_
    exact MYi.end (Wd := LW G q) hx hb hr hlocks (hP.sub (ws' := LW G q C) [0, 1, 2, 3, 4, 5, 6, 7, 8, 9, 10, 11, 12, 13, 14, 15, 16, 17, 18, 19, 20] rfl) hS dL_isRule_219 rfl h

set_option maxHeartbeats 4000000 in
set_option maxRecDepth 100000 in
theorem wL_isRule_171 {p : Program} {l : Launch} {e : Env} {s : State} {m : MethodId} {args : Array Value} {below : List Frame} {meth : Method} {c : Code} {G : GT} {q : Nat → Nat} {A : Nat → Prop} {out : Int32 × St} (bx : BX p RL wsL_isRule cL_isRule 10 (some .boolean) s m args meth c) (hA : ∀ q : Nat, s.heap.size ≤ q → A q) (hK : CK G s) (hl0 : l.stackTraces = false) (hE : XE A s) (C : St) (x2 : Int32) (x3 : Int32) (x4 : Int32) (x5 : Int32) (x8 : Int32) (h : pL_isRule_171 C x2 x3 x4 x5 x8 = some out) {H : Heap} {locs : List Loc} (hP : va_P G.1 vwCl (LX G q C) H) (hD : va_D A (LX G q C)) (hS : va_S A s.heap H locs) (ls : Array Slot) (hl : lv_has ls 10 [(0, .ref (q 0)), (2, .int x2), (3, .int x3), (4, .int x4), (5, .int x5), (8, .int x8)]) : W p l e rmL_isRule s m args below meth c H locs 1 250 (MYi G (LW G q) A s args below out 2 256) (F0 m 171 ls []) := by
  obtain ⟨hx, hb, hr, hts, hown, hml, hlocks⟩ := id bx
  unfold pL_isRule_171 at h
  refine lv_iload_n hx hb dL_isRule_171 rfl (lv_at hl 1 rfl) ?_
  refine lv_if_ne (tgt := 185) hx hb dL_isRule_172 (by decide) (fun c_172 => ?_) (fun c_172 => ?_)
  · have h := br_F h c_172
    refine lv_iload_n hx hb dL_isRule_185 rfl (lv_at hl 1 rfl) ?_
    refine lv_iconst (v := 1) hx hb dL_isRule_186 (by decide) ?_
    refine lv_icmp_ne (tgt := 200) hx hb dL_isRule_187 (by decide) (fun c_187 => ?_) (fun c_187 => ?_)
    · have h := br_F h c_187
      refine lv_aload_n hx hb dL_isRule_200 rfl (lv_at hl 0 rfl) ?_
      refine lv_iload_n hx hb dL_isRule_201 rfl (lv_at hl 2 rfl) ?_
      refine lv_iload hx hb dL_isRule_202 (lv_at hl 3 rfl) ?_
      refine lv_iload hx hb dL_isRule_204 (lv_at hl 4 rfl) ?_
      obtain ⟨u_3, hu_3, h⟩ := bd_ex h
      have hP : va_P G.1 vwCl ([] ++ (CW G q C ++ (NL2 G q C))) _ := hP
      have hD : va_D A ([] ++ (CW G q C ++ (NL2 G q C))) := hD
      refine wf_i (Wd := CW G q) [] (NL2 G q C) (vx_runSW (As := [.ref (q 0), .int x3, .int x4, .int x5]) (rest := []) ⟨hx, hb, hml, hown, hts⟩ (kL_any l hl0 G q C _ x3 x4 x5 u_3 hu_3) (vx_cwSW 4 hts gL_isRule_L_any rfl rfl rfl (by decide +kernel) ⟨Nat.le_of_ble_eq_true rfl, Nat.le_of_ble_eq_true rfl⟩) (xS (fr_mid [] (NL2 G q C) hP) (fr_midD [] (NL2 G q C) hD) hS hK hA hE) rfl rfl hl.1 rfl (lv_room (Nat.le_of_ble_eq_true rfl)) dL_isRule_206 ⟨Nat.le_of_ble_eq_true rfl, Nat.le_of_ble_eq_true rfl⟩) hP hD hS hA (fun _ => rfl) (fun H locs hP hD hS => ?_)
      rw [← LX_mg] at hP hD
      obtain ⟨C_4, eC_4, h⟩ := ltv_ex h
      rw [← eC_4] at hP hD
      exact wL_isRule_209 bx hA hK hl0 hE C_4 x8 (u_3.1) h hP hD hS _ (lv_sub hl [5] rfl)
    · have h := br_T h c_187
      refine lv_aload_n hx hb dL_isRule_190 rfl (lv_at hl 0 rfl) ?_
      refine lv_iload_n hx hb dL_isRule_191 rfl (lv_at hl 2 rfl) ?_
      refine lv_iload hx hb dL_isRule_192 (lv_at hl 3 rfl) ?_
      obtain ⟨u_5, hu_5, h⟩ := bd_ex h
      have hP : va_P G.1 vwCl ([] ++ (CW G q C ++ (NL2 G q C))) _ := hP
      have hD : va_D A ([] ++ (CW G q C ++ (NL2 G q C))) := hD
      refine wf_i (Wd := CW G q) [] (NL2 G q C) (vx_runSW (As := [.ref (q 0), .int x3, .int x4]) (rest := []) ⟨hx, hb, hml, hown, hts⟩ (kL_exclude l hl0 G q C _ x3 x4 u_5 hu_5) (vx_cwSW 3 hts gL_isRule_L_exclude rfl rfl rfl (by decide +kernel) ⟨Nat.le_of_ble_eq_true rfl, Nat.le_of_ble_eq_true rfl⟩) (xS (fr_mid [] (NL2 G q C) hP) (fr_midD [] (NL2 G q C) hD) hS hK hA hE) rfl rfl hl.1 rfl (lv_room (Nat.le_of_ble_eq_true rfl)) dL_isRule_194 ⟨Nat.le_of_ble_eq_true rfl, Nat.le_of_ble_eq_true rfl⟩) hP hD hS hA (fun _ => rfl) (fun H locs hP hD hS => ?_)
      rw [← LX_mg] at hP hD
      obtain ⟨C_6, eC_6, h⟩ := ltv_ex h
      rw [← eC_6] at hP hD
      refine lv_goto (tgt := 209) hx hb dL_isRule_197 (by decide) ?_
      exact wL_isRule_209 bx hA hK hl0 hE C_6 x8 (u_5.1) h hP hD hS _ (lv_sub hl [5] rfl)
  · have h := br_T h c_172
    refine lv_aload_n hx hb dL_isRule_175 rfl (lv_at hl 0 rfl) ?_
    refine lv_iload_n hx hb dL_isRule_176 rfl (lv_at hl 2 rfl) ?_
    refine lv_iload hx hb dL_isRule_177 (lv_at hl 3 rfl) ?_
    obtain ⟨u_7, hu_7, h⟩ := bd_ex h
    have hP : va_P G.1 vwCl ([] ++ (CW G q C ++ (NL2 G q C))) _ := hP
    have hD : va_D A ([] ++ (CW G q C ++ (NL2 G q C))) := hD
    refine wf_i (Wd := CW G q) [] (NL2 G q C) (vx_runSW (As := [.ref (q 0), .int x3, .int x4]) (rest := []) ⟨hx, hb, hml, hown, hts⟩ (kL_require l hl0 G q C _ x3 x4 u_7 hu_7) (vx_cwSW 3 hts gL_isRule_L_require rfl rfl rfl (by decide +kernel) ⟨Nat.le_of_ble_eq_true rfl, Nat.le_of_ble_eq_true rfl⟩) (xS (fr_mid [] (NL2 G q C) hP) (fr_midD [] (NL2 G q C) hD) hS hK hA hE) rfl rfl hl.1 rfl (lv_room (Nat.le_of_ble_eq_true rfl)) dL_isRule_179 ⟨Nat.le_of_ble_eq_true rfl, Nat.le_of_ble_eq_true rfl⟩) hP hD hS hA (fun _ => rfl) (fun H locs hP hD hS => ?_)
    rw [← LX_mg] at hP hD
    obtain ⟨C_8, eC_8, h⟩ := ltv_ex h
    rw [← eC_8] at hP hD
    refine lv_goto (tgt := 209) hx hb dL_isRule_182 (by decide) ?_
    exact wL_isRule_209 bx hA hK hl0 hE C_8 x8 (u_7.1) h hP hD hS _ (lv_sub hl [5] rfl)

set_option maxHeartbeats 4000000 in
set_option maxRecDepth 100000 in
theorem wL_isRule_144_b {p : Program} {l : Launch} {e : Env} {s : State} {m : MethodId} {args : Array Value} {below : List Frame} {meth : Method} {c : Code} {G : GT} {q : Nat → Nat} {A : Nat → Prop} {out : Int32 × St} (bx : BX p RL wsL_isRule cL_isRule 10 (some .boolean) s m args meth c) (hA : ∀ q : Nat, s.heap.size ≤ q → A q) (hK : CK G s) (hl0 : l.stackTraces = false) (hE : XE A s) {k144 : St → Int32 → Int32 → Int32 → Int32 → Int32 → Int32 → Option (Int32 × St)} (hk144 : ∀ (C : St) (x2 : Int32) (x3 : Int32) (x4 : Int32) (x5 : Int32) (x8 : Int32) (x9 : Int32), k144 C x2 x3 x4 x5 x8 x9 = some out → ∀ (H : Heap) (locs : List Loc) (hP : va_P G.1 vwCl (LX G q C) H) (hD : va_D A (LX G q C)) (hS : va_S A s.heap H locs), ∀ (ls : Array Slot), lv_has ls 10 [(0, .ref (q 0)), (1, .ref (q 20)), (2, .int x2), (3, .int x3), (4, .int x4), (5, .int x5), (7, .ref (q 21)), (8, .int x8), (9, .int x9)] → W p l e rmL_isRule s m args below meth c H locs 1 250 (MYi G (LW G q) A s args below out 2 256) (F0 m 144 ls [])) (C : St) (x2 : Int32) (x3 : Int32) (x4 : Int32) (x5 : Int32) (x8 : Int32) (x9 : Int32) (h : pL_isRule_144_b k144 C x2 x3 x4 x5 x8 x9 = some out) {H : Heap} {locs : List Loc} (hP : va_P G.1 vwCl (LX G q C) H) (hD : va_D A (LX G q C)) (hS : va_S A s.heap H locs) (ls : Array Slot) (hl : lv_has ls 10 [(0, .ref (q 0)), (1, .ref (q 20)), (2, .int x2), (3, .int x3), (4, .int x4), (5, .int x5), (7, .ref (q 21)), (8, .int x8), (9, .int x9)]) : W p l e rmL_isRule s m args below meth c H locs 1 250 (MYi G (LW G q) A s args below out 2 256) (F0 m 144 ls []) := by
  obtain ⟨hx, hb, hr, hts, hown, hml, hlocks⟩ := id bx
  unfold pL_isRule_144_b at h
  refine lv_iload hx hb dL_isRule_144 (lv_at hl 8 rfl) ?_
  refine lv_aload_n hx hb dL_isRule_146 rfl (lv_at hl 1 rfl) ?_
  refine va_alen (D := G.1) hx hb hK.1 hP 20 0 rfl rfl (v := 250) rfl dL_isRule_147 ?_
  refine lv_icmp_ge (tgt := 171) hx hb dL_isRule_148 (by decide) (fun c_148 => ?_) (fun c_148 => ?_)
  · have h := br_T h c_148
    exact wL_isRule_171 bx hA hK hl0 hE C x2 x3 x4 x5 x8 h hP hD hS _ (lv_sub hl [0, 2, 3, 4, 5, 7] rfl)
  · have h := br_F h c_148
    refine lv_iload hx hb dL_isRule_151 (lv_at hl 7 rfl) ?_
    refine lv_if_lt (tgt := 171) hx hb dL_isRule_153 (by decide) (fun c_153 => ?_) (fun c_153 => ?_)
    · have h := br_T h c_153
      exact wL_isRule_171 bx hA hK hl0 hE C x2 x3 x4 x5 x8 h hP hD hS _ (lv_sub hl [0, 2, 3, 4, 5, 7] rfl)
    · have h := br_F h c_153
      refine lv_aload_n hx hb dL_isRule_156 rfl (lv_at hl 1 rfl) ?_
      refine lv_iload hx hb dL_isRule_157 (lv_at hl 8 rfl) ?_
      refine lv_aload hx hb dL_isRule_159 (lv_at hl 6 rfl) ?_
      refine lv_iload hx hb dL_isRule_161 (lv_at hl 8 rfl) ?_
      obtain ⟨g163, h⟩ := gd_ex h
      refine va_iald (D := G.1) hx hb hK.1 hP 21 0 rfl rfl g163 dL_isRule_163 ?_
      obtain ⟨g164, h⟩ := gd_ex h
      refine va_iast (D := G.1) hx hb hK.1 hP hD hS 20 0 rfl rfl g164 dL_isRule_164 (fun H locs hP hD hS => ?_)
      have hP : va_P G.1 vwCl (LX G q (sA C 14 x9.toNatClampNeg (C.2 15 x9.toNatClampNeg))) H := hP
      have hD : va_D A (LX G q (sA C 14 x9.toNatClampNeg (C.2 15 x9.toNatClampNeg))) := hD
      obtain ⟨C_9, eC_9, h⟩ := ltv_ex h
      rw [← eC_9] at hP hD
      obtain ⟨v_10, ev_10, h⟩ := ltv_ex h
      refine lv_iinc (v := v_10) (lv' := [(9, .int v_10), (0, .ref (q 0)), (1, .ref (q 20)), (2, .int x2), (3, .int x3), (4, .int x4), (5, .int x5), (7, .ref (q 21)), (8, .int x8)]) hx hb dL_isRule_165 hl (k := 8) rfl (by rw [ev_10]; rfl) (by decide) rfl (fun ls hl => ?_)
      refine lv_goto (tgt := 144) hx hb dL_isRule_168 (by decide) ?_
      exact hk144 C_9 x2 x3 x4 x5 x8 v_10 h _ _ hP hD hS _ (lv_sub hl [1, 2, 3, 4, 5, 6, 7, 8, 0] rfl)

theorem wL_isRule_144 {p : Program} {l : Launch} {e : Env} {s : State} {m : MethodId} {args : Array Value} {below : List Frame} {meth : Method} {c : Code} {G : GT} {q : Nat → Nat} {A : Nat → Prop} {out : Int32 × St} (bx : BX p RL wsL_isRule cL_isRule 10 (some .boolean) s m args meth c) (hA : ∀ q : Nat, s.heap.size ≤ q → A q) (hK : CK G s) (hl0 : l.stackTraces = false) (hE : XE A s) :
    ∀ (n : Nat) (C : St) (x2 : Int32) (x3 : Int32) (x4 : Int32) (x5 : Int32) (x8 : Int32) (x9 : Int32), pL_isRule_144 n C x2 x3 x4 x5 x8 x9 = some out → ∀ (H : Heap) (locs : List Loc) (hP : va_P G.1 vwCl (LX G q C) H) (hD : va_D A (LX G q C)) (hS : va_S A s.heap H locs), ∀ (ls : Array Slot), lv_has ls 10 [(0, .ref (q 0)), (1, .ref (q 20)), (2, .int x2), (3, .int x3), (4, .int x4), (5, .int x5), (7, .ref (q 21)), (8, .int x8), (9, .int x9)] → W p l e rmL_isRule s m args below meth c H locs 1 250 (MYi G (LW G q) A s args below out 2 256) (F0 m 144 ls []) := by
  intro n
  induction n with
  | zero => intro _ _ _ _ _ _ _ h; cases h
  | succ n ih => exact fun a0 a1 a2 a3 a4 a5 a6 h _ _ hP hD hS ls hl => wL_isRule_144_b bx hA hK hl0 hE ih a0 a1 a2 a3 a4 a5 a6 h hP hD hS ls hl

set_option maxHeartbeats 4000000 in
set_option maxRecDepth 100000 in
theorem wL_isRule_139 {p : Program} {l : Launch} {e : Env} {s : State} {m : MethodId} {args : Array Value} {below : List Frame} {meth : Method} {c : Code} {G : GT} {q : Nat → Nat} {A : Nat → Prop} {out : Int32 × St} (bx : BX p RL wsL_isRule cL_isRule 10 (some .boolean) s m args meth c) (hA : ∀ q : Nat, s.heap.size ≤ q → A q) (hK : CK G s) (hl0 : l.stackTraces = false) (hE : XE A s) (C : St) (x2 : Int32) (x3 : Int32) (x4 : Int32) (x5 : Int32) (t0 : Int32) (h : pL_isRule_139 C x2 x3 x4 x5 t0 = some out) {H : Heap} {locs : List Loc} (hP : va_P G.1 vwCl (LX G q C) H) (hD : va_D A (LX G q C)) (hS : va_S A s.heap H locs) (ls : Array Slot) (hl : lv_has ls 10 [(0, .ref (q 0)), (1, .ref (q 20)), (2, .int x2), (3, .int x3), (4, .int x4), (5, .int x5), (7, .ref (q 21))]) : W p l e rmL_isRule s m args below meth c H locs 1 250 (MYi G (LW G q) A s args below out 2 256) (F0 m 139 ls [.int t0]) := by
  obtain ⟨hx, hb, hr, hts, hown, hml, hlocks⟩ := id bx
  unfold pL_isRule_139 at h
  refine lv_istore (lv' := [(8, .int t0), (0, .ref (q 0)), (1, .ref (q 20)), (2, .int x2), (3, .int x3), (4, .int x4), (5, .int x5), (7, .ref (q 21))]) hx hb dL_isRule_139 hl (by decide) rfl (fun ls hl => ?_)
  refine lv_iconst (v := 0) hx hb dL_isRule_141 (by decide) ?_
  refine lv_istore (lv' := [(9, .int 0), (8, .int t0), (0, .ref (q 0)), (1, .ref (q 20)), (2, .int x2), (3, .int x3), (4, .int x4), (5, .int x5), (7, .ref (q 21))]) hx hb dL_isRule_142 hl (by decide) rfl (fun ls hl => ?_)
  exact wL_isRule_144 bx hA hK hl0 hE FU C x2 x3 x4 x5 t0 0 h _ _ hP hD hS _ (lv_sub hl [2, 3, 4, 5, 6, 7, 8, 1, 0] rfl)

set_option maxHeartbeats 4000000 in
set_option maxRecDepth 100000 in
theorem wL_isRule_100 {p : Program} {l : Launch} {e : Env} {s : State} {m : MethodId} {args : Array Value} {below : List Frame} {meth : Method} {c : Code} {G : GT} {q : Nat → Nat} {A : Nat → Prop} {out : Int32 × St} (bx : BX p RL wsL_isRule cL_isRule 10 (some .boolean) s m args meth c) (hA : ∀ q : Nat, s.heap.size ≤ q → A q) (hK : CK G s) (hl0 : l.stackTraces = false) (hE : XE A s) (C : St) (x2 : Int32) (x3 : Int32) (x4 : Int32) (x5 : Int32) (x6 : Int32) (h : pL_isRule_100 C x2 x3 x4 x5 x6 = some out) {H : Heap} {locs : List Loc} (hP : va_P G.1 vwCl (LX G q C) H) (hD : va_D A (LX G q C)) (hS : va_S A s.heap H locs) (ls : Array Slot) (hl : lv_has ls 10 [(0, .ref (q 0)), (1, .ref (q 20)), (2, .int x2), (3, .int x3), (4, .int x4), (5, .int x5), (6, .int x6), (7, .ref (q 21))]) : W p l e rmL_isRule s m args below meth c H locs 1 250 (MYi G (LW G q) A s args below out 2 256) (F0 m 100 ls []) := by
  obtain ⟨hx, hb, hr, hts, hown, hml, hlocks⟩ := id bx
  unfold pL_isRule_100 at h
  refine lv_iload hx hb dL_isRule_100 (lv_at hl 6 rfl) ?_
  refine lv_if_eq (tgt := 110) hx hb dL_isRule_102 (by decide) (fun c_102 => ?_) (fun c_102 => ?_)
  · have h := br_T h c_102
    refine lv_aload_n hx hb dL_isRule_110 rfl (lv_at hl 1 rfl) ?_
    refine lv_iconst (v := 1) hx hb dL_isRule_111 (by decide) ?_
    obtain ⟨g112, h⟩ := gd_ex h
    refine va_iald (D := G.1) hx hb hK.1 hP 20 0 rfl rfl g112 dL_isRule_112 ?_
    refine lv_bipush (v := 20) hx hb dL_isRule_113 (by decide) ?_
    refine lv_icmp_ne (tgt := 123) hx hb dL_isRule_115 (by decide) (fun c_115 => ?_) (fun c_115 => ?_)
    · have h := br_F h c_115
      refine lv_aload hx hb dL_isRule_123 (lv_at hl 7 rfl) ?_
      obtain ⟨r_2, hr_2, h⟩ := bd_ex h
      refine ro_i (va_runS (As := [.ref (q 21)]) (rest := []) ⟨hx, hb, hml, hown, hts⟩ (kL_isPossible l G (fun _ => q 21) (nx C) r_2 hr_2) (va_cwS 1 hts gL_isRule_L_isPossible rfl rfl rfl (by decide +kernel) ⟨Nat.le_of_ble_eq_true rfl, Nat.le_of_ble_eq_true rfl⟩) (roS (hP.sub (ws' := NW G (fun _ => q 21) (nx C)) [21] rfl) hK) rfl rfl hl.1 rfl (lv_room (Nat.le_of_ble_eq_true rfl)) dL_isRule_125 ⟨Nat.le_of_ble_eq_true rfl, Nat.le_of_ble_eq_true rfl⟩) ?_
      refine lv_if_eq (tgt := 137) hx hb dL_isRule_128 (by decide) (fun c_128 => ?_) (fun c_128 => ?_)
      · have h := br_T h c_128
        refine lv_ldc (own := RL) (v := -900004) hx hb hown (w_mem hts 3 rfl) dL_isRule_137 ?_
        exact wL_isRule_139 bx hA hK hl0 hE C x2 x3 x4 x5 (-900004) h hP hD hS _ (lv_sub hl [0, 1, 2, 3, 4, 5, 7] rfl)
      · have h := br_F h c_128
        refine lv_aload_n hx hb dL_isRule_131 rfl (lv_at hl 1 rfl) ?_
        refine lv_iconst (v := 1) hx hb dL_isRule_132 (by decide) ?_
        obtain ⟨g133, h⟩ := gd_ex h
        refine va_iald (D := G.1) hx hb hK.1 hP 20 0 rfl rfl g133 dL_isRule_133 ?_
        refine lv_goto (tgt := 139) hx hb dL_isRule_134 (by decide) ?_
        exact wL_isRule_139 bx hA hK hl0 hE C x2 x3 x4 x5 (C.2 14 (1 : Int32).toNatClampNeg) h hP hD hS _ (lv_sub hl [0, 1, 2, 3, 4, 5, 7] rfl)
    · have h := br_T h c_115
      refine lv_ldc (own := RL) (v := -900003) hx hb hown (w_mem hts 2 rfl) dL_isRule_118 ?_
      refine lv_goto (tgt := 139) hx hb dL_isRule_120 (by decide) ?_
      exact wL_isRule_139 bx hA hK hl0 hE C x2 x3 x4 x5 (-900003) h hP hD hS _ (lv_sub hl [0, 1, 2, 3, 4, 5, 7] rfl)
  · have h := br_F h c_102
    refine lv_ldc (own := RL) (v := -900002) hx hb hown (w_mem hts 1 rfl) dL_isRule_105 ?_
    refine lv_goto (tgt := 139) hx hb dL_isRule_107 (by decide) ?_
    exact wL_isRule_139 bx hA hK hl0 hE C x2 x3 x4 x5 (-900002) h hP hD hS _ (lv_sub hl [0, 1, 2, 3, 4, 5, 7] rfl)

set_option maxHeartbeats 4000000 in
set_option maxRecDepth 100000 in
theorem wL_isRule_29 {p : Program} {l : Launch} {e : Env} {s : State} {m : MethodId} {args : Array Value} {below : List Frame} {meth : Method} {c : Code} {G : GT} {q : Nat → Nat} {A : Nat → Prop} {out : Int32 × St} (bx : BX p RL wsL_isRule cL_isRule 10 (some .boolean) s m args meth c) (hA : ∀ q : Nat, s.heap.size ≤ q → A q) (hK : CK G s) (hl0 : l.stackTraces = false) (hE : XE A s) (C : St) (x2 : Int32) (x3 : Int32) (x4 : Int32) (x5 : Int32) (t0 : Int32) (h : pL_isRule_29 C x2 x3 x4 x5 t0 = some out) {H : Heap} {locs : List Loc} (hP : va_P G.1 vwCl (LW G q C) H) (hD : va_D A (LW G q C)) (hS : va_S A s.heap H locs) (ls : Array Slot) (hl : lv_has ls 10 [(0, .ref (q 0)), (1, .ref (q 20)), (2, .int x2), (3, .int x3), (4, .int x4), (5, .int x5)]) : W p l e rmL_isRule s m args below meth c H locs 0 0 (MYi G (LW G q) A s args below out 2 256) (F0 m 29 ls [.int t0]) := by
  obtain ⟨hx, hb, hr, hts, hown, hml, hlocks⟩ := id bx
  unfold pL_isRule_29 at h
  refine lv_istore (lv' := [(6, .int t0), (0, .ref (q 0)), (1, .ref (q 20)), (2, .int x2), (3, .int x3), (4, .int x4), (5, .int x5)]) hx hb dL_isRule_29 hl (by decide) rfl (fun ls hl => ?_)
  refine lv_aload_n hx hb dL_isRule_31 rfl (lv_at hl 2 rfl) ?_
  refine cp_call (va_runS (As := [.ref (q 20)]) (rest := []) ⟨hx, hb, hml, hown, hts⟩ (kL_copy l G q C _) (va_cwS 1 hts gL_isRule_L_copy rfl rfl rfl (by decide +kernel) ⟨Nat.le_of_ble_eq_true rfl, Nat.le_of_ble_eq_true rfl⟩) (wrS (hP.sub (ws' := NW G q C) [20] rfl) (hD.sub (ws' := NW G q C) [20] (by decide) rfl) hK) rfl rfl hl.1 rfl (lv_room (Nat.le_of_ble_eq_true rfl)) dL_isRule_32 ⟨Nat.le_of_ble_eq_true rfl, Nat.le_of_ble_eq_true rfl⟩) hP hD hS hA (fun q1 H locs hq hP hD hS => ?_)
  have hW0 : LW G q1 = LW G q := LW_q hq
  rw [← hW0]
  rw [← hq 0 (by decide), ← hq 20 (by decide)] at hl
  obtain ⟨C_1, eC_1, h⟩ := ltv_ex h
  rw [← eC_1] at hP hD
  refine lv_astore (lv' := [(7, .ref (q1 21)), (6, .int t0), (0, .ref (q1 0)), (1, .ref (q1 20)), (2, .int x2), (3, .int x3), (4, .int x4), (5, .int x5)]) hx hb dL_isRule_35 hl (by decide) rfl (fun ls hl => ?_)
  refine lv_iload hx hb dL_isRule_37 (lv_at hl 1 rfl) ?_
  refine lv_if_ne (tgt := 100) hx hb dL_isRule_39 (by decide) (fun c_39 => ?_) (fun c_39 => ?_)
  · have h := br_F h c_39
    exact wL_isRule_100 bx hA hK hl0 hE C_1 x2 x3 x4 x5 t0 h hP hD hS _ (lv_sub hl [2, 3, 4, 5, 6, 7, 1, 0] rfl)
  · have h := br_T h c_39
    refine lv_aload_n hx hb dL_isRule_42 rfl (lv_at hl 3 rfl) ?_
    refine lv_iconst (v := 1) hx hb dL_isRule_43 (by decide) ?_
    obtain ⟨g44, h⟩ := gd_ex h
    refine va_iald (D := G.1) hx hb hK.1 hP 20 0 rfl rfl g44 dL_isRule_44 ?_
    refine lv_bipush (v := 20) hx hb dL_isRule_45 (by decide) ?_
    refine lv_icmp_ge (tgt := 100) hx hb dL_isRule_47 (by decide) (fun c_47 => ?_) (fun c_47 => ?_)
    · have h := br_T h c_47
      exact wL_isRule_100 bx hA hK hl0 hE C_1 x2 x3 x4 x5 t0 h hP hD hS _ (lv_sub hl [2, 3, 4, 5, 6, 7, 1, 0] rfl)
    · have h := br_F h c_47
      refine lv_bipush (v := 110) hx hb dL_isRule_50 (by decide) ?_
      refine lv_iconst (v := 5) hx hb dL_isRule_52 (by decide) ?_
      refine lv_aload_n hx hb dL_isRule_53 rfl (lv_at hl 3 rfl) ?_
      refine lv_iconst (v := 1) hx hb dL_isRule_54 (by decide) ?_
      obtain ⟨g55, h⟩ := gd_ex h
      refine va_iald (D := G.1) hx hb hK.1 hP 20 0 rfl rfl g55 dL_isRule_55 ?_
      refine lv_imul hx hb dL_isRule_56 ?_
      refine lv_iadd hx hb dL_isRule_57 ?_
      refine lv_topi (fun v_11 ev_11 => ?_)
      have h := ltv_at h v_11 ev_11
      refine lv_istore (lv' := [(8, .int v_11), (7, .ref (q1 21)), (6, .int t0), (0, .ref (q1 0)), (1, .ref (q1 20)), (2, .int x2), (3, .int x3), (4, .int x4), (5, .int x5)]) hx hb dL_isRule_58 hl (by decide) rfl (fun ls hl => ?_)
      refine lv_aload hx hb dL_isRule_60 (lv_at hl 1 rfl) ?_
      refine lv_iload hx hb dL_isRule_62 (lv_at hl 0 rfl) ?_
      refine lv_iload_n hx hb dL_isRule_64 rfl (lv_at hl 5 rfl) ?_
      obtain ⟨g65, h⟩ := gd_ex h
      refine va_iast (D := G.1) hx hb hK.1 hP hD hS 21 0 rfl rfl g65 dL_isRule_65 (fun H locs hP hD hS => ?_)
      have hP : va_P G.1 vwCl (LX G q1 (sA C_1 15 v_11.toNatClampNeg x2)) H := hP
      have hD : va_D A (LX G q1 (sA C_1 15 v_11.toNatClampNeg x2)) := hD
      obtain ⟨C_12, eC_12, h⟩ := ltv_ex h
      rw [← eC_12] at hP hD
      refine lv_aload hx hb dL_isRule_66 (lv_at hl 1 rfl) ?_
      refine lv_iload hx hb dL_isRule_68 (lv_at hl 0 rfl) ?_
      refine lv_iconst (v := 1) hx hb dL_isRule_70 (by decide) ?_
      refine lv_iadd hx hb dL_isRule_71 ?_
      refine lv_iload_n hx hb dL_isRule_72 rfl (lv_at hl 6 rfl) ?_
      obtain ⟨g73, h⟩ := gd_ex h
      refine va_iast (D := G.1) hx hb hK.1 hP hD hS 21 0 rfl rfl g73 dL_isRule_73 (fun H locs hP hD hS => ?_)
      have hP : va_P G.1 vwCl (LX G q1 (sA C_12 15 (v_11 + 1).toNatClampNeg x3)) H := hP
      have hD : va_D A (LX G q1 (sA C_12 15 (v_11 + 1).toNatClampNeg x3)) := hD
      obtain ⟨C_13, eC_13, h⟩ := ltv_ex h
      rw [← eC_13] at hP hD
      refine lv_aload hx hb dL_isRule_74 (lv_at hl 1 rfl) ?_
      refine lv_iload hx hb dL_isRule_76 (lv_at hl 0 rfl) ?_
      refine lv_iconst (v := 2) hx hb dL_isRule_78 (by decide) ?_
      refine lv_iadd hx hb dL_isRule_79 ?_
      refine lv_iload hx hb dL_isRule_80 (lv_at hl 7 rfl) ?_
      obtain ⟨g82, h⟩ := gd_ex h
      refine va_iast (D := G.1) hx hb hK.1 hP hD hS 21 0 rfl rfl g82 dL_isRule_82 (fun H locs hP hD hS => ?_)
      have hP : va_P G.1 vwCl (LX G q1 (sA C_13 15 (v_11 + 2).toNatClampNeg x4)) H := hP
      have hD : va_D A (LX G q1 (sA C_13 15 (v_11 + 2).toNatClampNeg x4)) := hD
      obtain ⟨C_14, eC_14, h⟩ := ltv_ex h
      rw [← eC_14] at hP hD
      refine lv_aload hx hb dL_isRule_83 (lv_at hl 1 rfl) ?_
      refine lv_iload hx hb dL_isRule_85 (lv_at hl 0 rfl) ?_
      refine lv_iconst (v := 3) hx hb dL_isRule_87 (by decide) ?_
      refine lv_iadd hx hb dL_isRule_88 ?_
      refine lv_iload hx hb dL_isRule_89 (lv_at hl 8 rfl) ?_
      obtain ⟨g91, h⟩ := gd_ex h
      refine va_iast (D := G.1) hx hb hK.1 hP hD hS 21 0 rfl rfl g91 dL_isRule_91 (fun H locs hP hD hS => ?_)
      have hP : va_P G.1 vwCl (LX G q1 (sA C_14 15 (v_11 + 3).toNatClampNeg x5)) H := hP
      have hD : va_D A (LX G q1 (sA C_14 15 (v_11 + 3).toNatClampNeg x5)) := hD
      obtain ⟨C_15, eC_15, h⟩ := ltv_ex h
      rw [← eC_15] at hP hD
      refine lv_aload hx hb dL_isRule_92 (lv_at hl 1 rfl) ?_
      refine lv_iconst (v := 1) hx hb dL_isRule_94 (by decide) ?_
      refine lv_dup2_11 hx hb dL_isRule_95 rfl rfl ?_
      obtain ⟨g96, h⟩ := gd_ex h
      refine va_iald (D := G.1) hx hb hK.1 hP 21 0 rfl rfl g96 dL_isRule_96 ?_
      refine lv_iconst (v := 1) hx hb dL_isRule_97 (by decide) ?_
      refine lv_iadd hx hb dL_isRule_98 ?_
      obtain ⟨g99, h⟩ := gd_ex h
      refine va_iast (D := G.1) hx hb hK.1 hP hD hS 21 0 rfl rfl g99 dL_isRule_99 (fun H locs hP hD hS => ?_)
      have hP : va_P G.1 vwCl (LX G q1 (sA C_15 15 (1 : Int32).toNatClampNeg ((C_15.2 15 (1 : Int32).toNatClampNeg) + 1))) H := hP
      have hD : va_D A (LX G q1 (sA C_15 15 (1 : Int32).toNatClampNeg ((C_15.2 15 (1 : Int32).toNatClampNeg) + 1))) := hD
      obtain ⟨C_16, eC_16, h⟩ := ltv_ex h
      rw [← eC_16] at hP hD
      exact wL_isRule_100 bx hA hK hl0 hE C_16 x2 x3 x4 x5 t0 h hP hD hS _ (lv_sub hl [3, 4, 5, 6, 7, 8, 2, 1] rfl)

set_option maxHeartbeats 4000000 in
set_option maxRecDepth 100000 in
theorem wL_isRule_24 {p : Program} {l : Launch} {e : Env} {s : State} {m : MethodId} {args : Array Value} {below : List Frame} {meth : Method} {c : Code} {G : GT} {q : Nat → Nat} {A : Nat → Prop} {out : Int32 × St} (bx : BX p RL wsL_isRule cL_isRule 10 (some .boolean) s m args meth c) (hA : ∀ q : Nat, s.heap.size ≤ q → A q) (hK : CK G s) (hl0 : l.stackTraces = false) (hE : XE A s) (C : St) (x2 : Int32) (x3 : Int32) (x4 : Int32) (x5 : Int32) (h : pL_isRule_24 C x2 x3 x4 x5 = some out) {H : Heap} {locs : List Loc} (hP : va_P G.1 vwCl (LW G q C) H) (hD : va_D A (LW G q C)) (hS : va_S A s.heap H locs) (ls : Array Slot) (hl : lv_has ls 10 [(0, .ref (q 0)), (1, .ref (q 20)), (2, .int x2), (3, .int x3), (4, .int x4), (5, .int x5)]) : W p l e rmL_isRule s m args below meth c H locs 0 0 (MYi G (LW G q) A s args below out 2 256) (F0 m 24 ls []) := by
  obtain ⟨hx, hb, hr, hts, hown, hml, hlocks⟩ := id bx
  unfold pL_isRule_24 at h
  refine lv_iconst (v := 1) hx hb dL_isRule_24 (by decide) ?_
  refine lv_goto (tgt := 29) hx hb dL_isRule_25 (by decide) ?_
  exact wL_isRule_29 bx hA hK hl0 hE C x2 x3 x4 x5 1 h hP hD hS _ (lv_sub hl [0, 1, 2, 3, 4, 5] rfl)

set_option maxHeartbeats 4000000 in
set_option maxRecDepth 100000 in
theorem wL_isRule_28 {p : Program} {l : Launch} {e : Env} {s : State} {m : MethodId} {args : Array Value} {below : List Frame} {meth : Method} {c : Code} {G : GT} {q : Nat → Nat} {A : Nat → Prop} {out : Int32 × St} (bx : BX p RL wsL_isRule cL_isRule 10 (some .boolean) s m args meth c) (hA : ∀ q : Nat, s.heap.size ≤ q → A q) (hK : CK G s) (hl0 : l.stackTraces = false) (hE : XE A s) (C : St) (x2 : Int32) (x3 : Int32) (x4 : Int32) (x5 : Int32) (h : pL_isRule_28 C x2 x3 x4 x5 = some out) {H : Heap} {locs : List Loc} (hP : va_P G.1 vwCl (LW G q C) H) (hD : va_D A (LW G q C)) (hS : va_S A s.heap H locs) (ls : Array Slot) (hl : lv_has ls 10 [(0, .ref (q 0)), (1, .ref (q 20)), (2, .int x2), (3, .int x3), (4, .int x4), (5, .int x5)]) : W p l e rmL_isRule s m args below meth c H locs 0 0 (MYi G (LW G q) A s args below out 2 256) (F0 m 28 ls []) := by
  obtain ⟨hx, hb, hr, hts, hown, hml, hlocks⟩ := id bx
  unfold pL_isRule_28 at h
  refine lv_iconst (v := 0) hx hb dL_isRule_28 (by decide) ?_
  exact wL_isRule_29 bx hA hK hl0 hE C x2 x3 x4 x5 0 h hP hD hS _ (lv_sub hl [0, 1, 2, 3, 4, 5] rfl)

set_option maxHeartbeats 4000000 in
set_option maxRecDepth 100000 in
theorem kL_isRule (l : Launch) (hl0 : l.stackTraces = false) (G : GT) (q : Nat → Nat) (C : St) (sz : Nat) (x2 : Int32) (x3 : Int32) (x4 : Int32) (x5 : Int32) (r : Int32 × St) (h : pL_isRule C x2 x3 x4 x5 = some r) : Met l yL_isRule wsL_isRule rmL_isRule (va_Pc [.ref (q 0), .ref (q 20), .int x2, .int x3, .int x4, .int x5] (xP G (LW G q C) sz)) (va_Qi (fun v u => (v, u) = r) (fun u t => va_P G.1 vwCl (LW G q u) t.heap) (va_A (LW G q C) sz)) 2 256 (va_A (LW G q C) sz) := by
  refine Met.ofW (cc := cL_isRule) (maxL := 10) (ret := (some .boolean)) (by decide) rfl ?_
  intro p e s m args below meth c s₁ B hml hv
  obtain ⟨rfl, ⟨hsz, hP, hK, hD0⟩, hE⟩ := hv
  have bx := bx_of B hml
  subst hsz
  have hD := hD0.self (sz := s.heap.size)
  generalize hAe : va_A (LW G q C) s.heap.size = A at hD hE ⊢
  have hA : ∀ q : Nat, s.heap.size ≤ q → A q := fun q h => by rw [← hAe]; exact Or.inr h
  have hS : va_S A s.heap s.heap [] := va_S.rf
  obtain ⟨hx, hb, hr, hts, hown, hml, hlocks⟩ := id bx
  have hl := lv_entry ([.ref (q 0), .ref (q 20), .int x2, .int x3, .int x4, .int x5]) (n := 10) (Nat.le_of_ble_eq_true rfl)
  rw [lg_entry_eq]
  generalize (lg_sl ([.ref (q 0), .ref (q 20), .int x2, .int x3, .int x4, .int x5]) ++ List.replicate (10 - (lg_sl ([.ref (q 0), .ref (q 20), .int x2, .int x3, .int x4, .int x5])).length) Slot.unset).toArray = ls at hl ⊢
  have hl : lv_has ls 10 [(0, .ref (q 0)), (1, .ref (q 20)), (2, .int x2), (3, .int x3), (4, .int x4), (5, .int x5)] := hl
  show W p l e rmL_isRule s m _ below meth c s.heap [] 0 0 (MYi G (LW G q) A s _ below r 2 256) (F0 m 0 ls [])
  unfold pL_isRule at h
  refine lv_iload_n hx hb dL_isRule_0 rfl (lv_at hl 3 rfl) ?_
  refine lv_iload hx hb dL_isRule_1 (lv_at hl 4 rfl) ?_
  refine lv_icmp_eq (tgt := 24) hx hb dL_isRule_3 (by decide) (fun c_3 => ?_) (fun c_3 => ?_)
  · have h := br_T h c_3
    exact wL_isRule_24 bx hA hK hl0 hE C x2 x3 x4 x5 h hP hD hS _ (lv_sub hl [0, 1, 2, 3, 4, 5] rfl)
  · have h := br_F h c_3
    refine lv_iload_n hx hb dL_isRule_6 rfl (lv_at hl 2 rfl) ?_
    refine lv_iconst (v := 2) hx hb dL_isRule_7 (by decide) ?_
    refine lv_icmp_ne (tgt := 28) hx hb dL_isRule_8 (by decide) (fun c_8 => ?_) (fun c_8 => ?_)
    · have h := br_F h c_8
      exact wL_isRule_28 bx hA hK hl0 hE C x2 x3 x4 x5 h hP hD hS _ (lv_sub hl [0, 1, 2, 3, 4, 5] rfl)
    · have h := br_T h c_8
      refine lv_iload_n hx hb dL_isRule_11 rfl (lv_at hl 3 rfl) ?_
      refine lv_iload hx hb dL_isRule_12 (lv_at hl 5 rfl) ?_
      refine lv_icmp_eq (tgt := 24) hx hb dL_isRule_14 (by decide) (fun c_14 => ?_) (fun c_14 => ?_)
      · have h := br_T h c_14
        exact wL_isRule_24 bx hA hK hl0 hE C x2 x3 x4 x5 h hP hD hS _ (lv_sub hl [0, 1, 2, 3, 4, 5] rfl)
      · have h := br_F h c_14
        refine lv_iload hx hb dL_isRule_17 (lv_at hl 4 rfl) ?_
        refine lv_iload hx hb dL_isRule_19 (lv_at hl 5 rfl) ?_
        refine lv_icmp_ne (tgt := 28) hx hb dL_isRule_21 (by decide) (fun c_21 => ?_) (fun c_21 => ?_)
        · have h := br_F h c_21
          exact wL_isRule_28 bx hA hK hl0 hE C x2 x3 x4 x5 h hP hD hS _ (lv_sub hl [0, 1, 2, 3, 4, 5] rfl)
        · have h := br_T h c_21
          exact wL_isRule_24 bx hA hK hl0 hE C x2 x3 x4 x5 h hP hD hS _ (lv_sub hl [0, 1, 2, 3, 4, 5] rfl)
