theorem tw_15 {x : Int32} (h0 : ¬ x = 0) (h1 : ¬ x = 1) (h2 : ¬ x = 2) (h3 : ¬ x = 3) (h4 : ¬ x = 4) (h5 : ¬ x = 5) (h6 : ¬ x = 6) (h7 : ¬ x = 7) (h8 : ¬ x = 8) (h9 : ¬ x = 9) (h10 : ¬ x = 10) (h11 : ¬ x = 11) (h12 : ¬ x = 12) (h13 : ¬ x = 13) (h14 : ¬ x = 14) : x.toInt < 0 ∨ (14 : Int) < x.toInt := by
  have j : ∀ {y : Int32} {k : Int}, ¬ x = y → y.toInt = k → x.toInt ≠ k := fun h e q => h (Int32.toInt_inj.mp (q.trans e.symm))
  have j0 : x.toInt ≠ 0 := j h0 (by decide)
  have j1 : x.toInt ≠ 1 := j h1 (by decide)
  have j2 : x.toInt ≠ 2 := j h2 (by decide)
  have j3 : x.toInt ≠ 3 := j h3 (by decide)
  have j4 : x.toInt ≠ 4 := j h4 (by decide)
  have j5 : x.toInt ≠ 5 := j h5 (by decide)
  have j6 : x.toInt ≠ 6 := j h6 (by decide)
  have j7 : x.toInt ≠ 7 := j h7 (by decide)
  have j8 : x.toInt ≠ 8 := j h8 (by decide)
  have j9 : x.toInt ≠ 9 := j h9 (by decide)
  have j10 : x.toInt ≠ 10 := j h10 (by decide)
  have j11 : x.toInt ≠ 11 := j h11 (by decide)
  have j12 : x.toInt ≠ 12 := j h12 (by decide)
  have j13 : x.toInt ≠ 13 := j h13 (by decide)
  have j14 : x.toInt ≠ 14 := j h14 (by decide)
  omega

def rmL_isRetracted : Room := { frames := 9, cells := 1, slots := 6, locals := 165 }

set_option maxHeartbeats 4000000 in
set_option maxRecDepth 100000 in
theorem wL_isRetracted_76 {p : Program} {l : Launch} {e : Env} {s : State} {m : MethodId} {args : Array Value} {below : List Frame} {meth : Method} {c : Code} {G : GT} {q : Nat → Nat} {A : Nat → Prop} {out : Int32 × St} (bx : BX p RL wsL_isRetracted cL_isRetracted 4 (some .boolean) s m args meth c) (hA : ∀ q : Nat, s.heap.size ≤ q → A q) (hK : CK G s) (hl0 : l.stackTraces = false) (hE : XE A s) (C : St) (t0 : Int32) (t1 : Int32) (h : pL_isRetracted_76 C t0 t1 = some out) {H : Heap} {locs : List Loc} (hP : va_P G.1 vwCl (LW G q C) H) (hD : va_D A (LW G q C)) (hS : va_S A s.heap H locs) (ls : Array Slot) (hl : lv_has ls 4 []) : W p l e rmL_isRetracted s m args below meth c H locs 1 6 (MYi G (LW G q) A s args below out 1 6) (F0 m 76 ls [.int t1, .int t0]) := by
  obtain ⟨hx, hb, hr, hts, hown, hml, hlocks⟩ := id bx
  unfold pL_isRetracted_76 at h
  refine lv_icmp_ne (tgt := 83) hx hb dL_isRetracted_76 (by decide) (fun c_76 => ?_) (fun c_76 => ?_)
  · have h := br_F h c_76
    refine lv_iconst (v := 0) hx hb dL_isRetracted_83 (by decide) ?_
    exact MYi.end (Wd := LW G q) hx hb hr hlocks hP hS dL_isRetracted_84 rfl h
  · have h := br_T h c_76
    refine lv_iconst (v := 1) hx hb dL_isRetracted_79 (by decide) ?_
    refine lv_goto (tgt := 84) hx hb dL_isRetracted_80 (by decide) ?_
    exact MYi.end (Wd := LW G q) hx hb hr hlocks hP hS dL_isRetracted_84 rfl h

set_option maxHeartbeats 4000000 in
set_option maxRecDepth 100000 in
theorem wL_isRetracted_38 {p : Program} {l : Launch} {e : Env} {s : State} {m : MethodId} {args : Array Value} {below : List Frame} {meth : Method} {c : Code} {G : GT} {q : Nat → Nat} {A : Nat → Prop} {out : Int32 × St} (bx : BX p RL wsL_isRetracted cL_isRetracted 4 (some .boolean) s m args meth c) (hA : ∀ q : Nat, s.heap.size ≤ q → A q) (hK : CK G s) (hl0 : l.stackTraces = false) (hE : XE A s) (C : St) (x2 : Int32) (x3 : Int32) (h : pL_isRetracted_38 C x2 x3 = some out) {H : Heap} {locs : List Loc} (hP : va_P G.1 vwCl (LW G q C) H) (hD : va_D A (LW G q C)) (hS : va_S A s.heap H locs) (ls : Array Slot) (hl : lv_has ls 4 [(0, .ref (q 0)), (1, .ref (q 20)), (2, .int x2), (3, .int x3)]) : W p l e rmL_isRetracted s m args below meth c H locs 0 0 (MYi G (LW G q) A s args below out 1 6) (F0 m 38 ls []) := by
  obtain ⟨hx, hb, hr, hts, hown, hml, hlocks⟩ := id bx
  unfold pL_isRetracted_38 at h
  refine lv_aload_n hx hb dL_isRetracted_38 rfl (lv_at hl 1 rfl) ?_
  refine lv_iconst (v := 3) hx hb dL_isRetracted_39 (by decide) ?_
  refine lv_dup2_11 hx hb dL_isRetracted_40 rfl rfl ?_
  obtain ⟨g41, h⟩ := gd_ex h
  refine va_iald (D := G.1) hx hb hK.1 hP 20 0 rfl rfl g41 dL_isRetracted_41 ?_
  refine lv_iconst (v := 1) hx hb dL_isRetracted_42 (by decide) ?_
  refine lv_iload_n hx hb dL_isRetracted_43 rfl (lv_at hl 2 rfl) ?_
  refine lv_ishl hx hb dL_isRetracted_44 ?_
  refine lv_iconst (v := (-1)) hx hb dL_isRetracted_45 (by decide) ?_
  refine lv_ixor hx hb dL_isRetracted_46 ?_
  refine lv_iand hx hb dL_isRetracted_47 ?_
  obtain ⟨g48, h⟩ := gd_ex h
  refine va_iast (D := G.1) hx hb hK.1 hP hD hS 20 0 rfl rfl g48 dL_isRetracted_48 (fun H locs hP hD hS => ?_)
  have hP : va_P G.1 vwCl (LW G q (sA C 14 (3 : Int32).toNatClampNeg ((C.2 14 (3 : Int32).toNatClampNeg) &&& (((1 : Int32) <<< (x2 &&& 31)) ^^^ (-1))))) H := hP
  have hD : va_D A (LW G q (sA C 14 (3 : Int32).toNatClampNeg ((C.2 14 (3 : Int32).toNatClampNeg) &&& (((1 : Int32) <<< (x2 &&& 31)) ^^^ (-1))))) := hD
  obtain ⟨C_2, eC_2, h⟩ := ltv_ex h
  rw [← eC_2] at hP hD
  refine lv_aload_n hx hb dL_isRetracted_49 rfl (lv_at hl 1 rfl) ?_
  refine lv_iconst (v := 4) hx hb dL_isRetracted_50 (by decide) ?_
  refine lv_dup2_11 hx hb dL_isRetracted_51 rfl rfl ?_
  obtain ⟨g52, h⟩ := gd_ex h
  refine va_iald (D := G.1) hx hb hK.1 hP 20 0 rfl rfl g52 dL_isRetracted_52 ?_
  refine lv_iconst (v := 1) hx hb dL_isRetracted_53 (by decide) ?_
  refine lv_iload_n hx hb dL_isRetracted_54 rfl (lv_at hl 2 rfl) ?_
  refine lv_ishl hx hb dL_isRetracted_55 ?_
  refine lv_iconst (v := (-1)) hx hb dL_isRetracted_56 (by decide) ?_
  refine lv_ixor hx hb dL_isRetracted_57 ?_
  refine lv_iand hx hb dL_isRetracted_58 ?_
  obtain ⟨g59, h⟩ := gd_ex h
  refine va_iast (D := G.1) hx hb hK.1 hP hD hS 20 0 rfl rfl g59 dL_isRetracted_59 (fun H locs hP hD hS => ?_)
  have hP : va_P G.1 vwCl (LW G q (sA C_2 14 (4 : Int32).toNatClampNeg ((C_2.2 14 (4 : Int32).toNatClampNeg) &&& (((1 : Int32) <<< (x2 &&& 31)) ^^^ (-1))))) H := hP
  have hD : va_D A (LW G q (sA C_2 14 (4 : Int32).toNatClampNeg ((C_2.2 14 (4 : Int32).toNatClampNeg) &&& (((1 : Int32) <<< (x2 &&& 31)) ^^^ (-1))))) := hD
  obtain ⟨C_3, eC_3, h⟩ := ltv_ex h
  rw [← eC_3] at hP hD
  refine lv_aload_n hx hb dL_isRetracted_60 rfl (lv_at hl 0 rfl) ?_
  refine lv_iload_n hx hb dL_isRetracted_61 rfl (lv_at hl 2 rfl) ?_
  obtain ⟨u_4, hu_4, h⟩ := bd_ex h
  have hP : va_P G.1 vwCl ([] ++ (CW G q C_3 ++ (NL G q C_3))) _ := hP
  have hD : va_D A ([] ++ (CW G q C_3 ++ (NL G q C_3))) := hD
  refine wf_i (Wd := CW G q) [] (NL G q C_3) (vx_runSW (As := [.ref (q 0), .int x2]) (rest := []) ⟨hx, hb, hml, hown, hts⟩ (kL_retract l hl0 G q C_3 _ x2 u_4 hu_4) (vx_cwSW 2 hts gL_isRetracted_L_retract rfl rfl rfl (by decide +kernel) ⟨Nat.le_of_ble_eq_true rfl, Nat.le_of_ble_eq_true rfl⟩) (xS (fr_mid [] (NL G q C_3) hP) (fr_midD [] (NL G q C_3) hD) hS hK hA hE) rfl rfl hl.1 rfl (lv_room (Nat.le_of_ble_eq_true rfl)) dL_isRetracted_62 ⟨Nat.le_of_ble_eq_true rfl, Nat.le_of_ble_eq_true rfl⟩) hP hD hS hA (fun _ => rfl) (fun H locs hP hD hS => ?_)
  rw [← LW_mg] at hP hD
  obtain ⟨C_5, eC_5, h⟩ := ltv_ex h
  rw [← eC_5] at hP hD
  refine lv_iload_n hx hb dL_isRetracted_65 rfl (lv_at hl 3 rfl) ?_
  refine lv_if_eq (tgt := 74) hx hb dL_isRetracted_66 (by decide) (fun c_66 => ?_) (fun c_66 => ?_)
  · have h := br_T h c_66
    refine lv_bipush (v := 114) hx hb dL_isRetracted_74 (by decide) ?_
    exact wL_isRetracted_76 bx hA hK hl0 hE C_5 (u_4.1) 114 h hP hD hS _ (lv_sub hl [] rfl)
  · have h := br_F h c_66
    refine lv_bipush (v := 99) hx hb dL_isRetracted_69 (by decide) ?_
    refine lv_goto (tgt := 76) hx hb dL_isRetracted_71 (by decide) ?_
    exact wL_isRetracted_76 bx hA hK hl0 hE C_5 (u_4.1) 99 h hP hD hS _ (lv_sub hl [] rfl)

set_option maxHeartbeats 4000000 in
set_option maxRecDepth 100000 in
theorem kL_isRetracted (l : Launch) (hl0 : l.stackTraces = false) (G : GT) (q : Nat → Nat) (C : St) (sz : Nat) (x2 : Int32) (r : Int32 × St) (h : pL_isRetracted C x2 = some r) : Met l yL_isRetracted wsL_isRetracted rmL_isRetracted (va_Pc [.ref (q 0), .ref (q 20), .int x2] (xP G (LW G q C) sz)) (va_Qi (fun v u => (v, u) = r) (fun u t => va_P G.1 vwCl (LW G q u) t.heap) (va_A (LW G q C) sz)) 1 6 (va_A (LW G q C) sz) := by
  refine Met.ofW (cc := cL_isRetracted) (maxL := 4) (ret := (some .boolean)) (by decide) rfl ?_
  intro p e s m args below meth c s₁ B hml hv
  obtain ⟨rfl, ⟨hsz, hP, hK, hD0⟩, hE⟩ := hv
  have bx := bx_of B hml
  subst hsz
  have hD := hD0.self (sz := s.heap.size)
  generalize hAe : va_A (LW G q C) s.heap.size = A at hD hE ⊢
  have hA : ∀ q : Nat, s.heap.size ≤ q → A q := fun q h => by rw [← hAe]; exact Or.inr h
  have hS : va_S A s.heap s.heap [] := va_S.rf
  obtain ⟨hx, hb, hr, hts, hown, hml, hlocks⟩ := id bx
  have hl := lv_entry ([.ref (q 0), .ref (q 20), .int x2]) (n := 4) (Nat.le_of_ble_eq_true rfl)
  rw [lg_entry_eq]
  generalize (lg_sl ([.ref (q 0), .ref (q 20), .int x2]) ++ List.replicate (4 - (lg_sl ([.ref (q 0), .ref (q 20), .int x2])).length) Slot.unset).toArray = ls at hl ⊢
  have hl : lv_has ls 4 [(0, .ref (q 0)), (1, .ref (q 20)), (2, .int x2)] := hl
  show W p l e rmL_isRetracted s m _ below meth c s.heap [] 0 0 (MYi G (LW G q) A s _ below r 1 6) (F0 m 0 ls [])
  unfold pL_isRetracted at h
  refine lv_aload_n hx hb dL_isRetracted_0 rfl (lv_at hl 1 rfl) ?_
  refine lv_iconst (v := 3) hx hb dL_isRetracted_1 (by decide) ?_
  obtain ⟨g2, h⟩ := gd_ex h
  refine va_iald (D := G.1) hx hb hK.1 hP 20 0 rfl rfl g2 dL_isRetracted_2 ?_
  refine lv_iload_n hx hb dL_isRetracted_3 rfl (lv_at hl 2 rfl) ?_
  obtain ⟨r_1, hr_1, h⟩ := bd_ex h
  refine ro_i (va_runS (As := [.int (C.2 14 (3 : Int32).toNatClampNeg), .int x2]) (rest := []) ⟨hx, hb, hml, hown, hts⟩ (kL_isIn l (C.2 14 (3 : Int32).toNatClampNeg) x2 r_1 hr_1) (va_cwS 2 hts gL_isRetracted_L_isIn rfl rfl rfl (by decide +kernel) ⟨Nat.le_of_ble_eq_true rfl, Nat.le_of_ble_eq_true rfl⟩) noS rfl rfl hl.1 rfl (lv_room (Nat.le_of_ble_eq_true rfl)) dL_isRetracted_4 ⟨Nat.le_of_ble_eq_true rfl, Nat.le_of_ble_eq_true rfl⟩) ?_
  refine lv_istore_n (lv' := [(3, .int r_1), (0, .ref (q 0)), (1, .ref (q 20)), (2, .int x2)]) hx hb dL_isRetracted_7 rfl hl (by decide) rfl (fun ls hl => ?_)
  refine lv_iload_n hx hb dL_isRetracted_8 rfl (lv_at hl 0 rfl) ?_
  refine lv_if_ne (tgt := 38) hx hb dL_isRetracted_9 (by decide) (fun c_9 => ?_) (fun c_9 => ?_)
  · have h := br_F h c_9
    exact wL_isRetracted_38 bx hA hK hl0 hE C x2 r_1 h hP hD hS _ (lv_sub hl [1, 2, 3, 0] rfl)
  · have h := br_T h c_9
    refine lv_aload_n hx hb dL_isRetracted_12 rfl (lv_at hl 2 rfl) ?_
    refine lv_iconst (v := 4) hx hb dL_isRetracted_13 (by decide) ?_
    obtain ⟨g14, h⟩ := gd_ex h
    refine va_iald (D := G.1) hx hb hK.1 hP 20 0 rfl rfl g14 dL_isRetracted_14 ?_
    refine lv_iload_n hx hb dL_isRetracted_15 rfl (lv_at hl 3 rfl) ?_
    obtain ⟨r_6, hr_6, h⟩ := bd_ex h
    refine ro_i (va_runS (As := [.int (C.2 14 (4 : Int32).toNatClampNeg), .int x2]) (rest := []) ⟨hx, hb, hml, hown, hts⟩ (kL_isIn l (C.2 14 (4 : Int32).toNatClampNeg) x2 r_6 hr_6) (va_cwS 2 hts gL_isRetracted_L_isIn rfl rfl rfl (by decide +kernel) ⟨Nat.le_of_ble_eq_true rfl, Nat.le_of_ble_eq_true rfl⟩) noS rfl rfl hl.1 rfl (lv_room (Nat.le_of_ble_eq_true rfl)) dL_isRetracted_16 ⟨Nat.le_of_ble_eq_true rfl, Nat.le_of_ble_eq_true rfl⟩) ?_
    refine lv_if_ne (tgt := 38) hx hb dL_isRetracted_19 (by decide) (fun c_19 => ?_) (fun c_19 => ?_)
    · have h := br_F h c_19
      exact wL_isRetracted_38 bx hA hK hl0 hE C x2 r_1 h hP hD hS _ (lv_sub hl [1, 2, 3, 0] rfl)
    · have h := br_T h c_19
      refine lv_aload_n hx hb dL_isRetracted_22 rfl (lv_at hl 1 rfl) ?_
      refine lv_iload_n hx hb dL_isRetracted_23 rfl (lv_at hl 3 rfl) ?_
      obtain ⟨u_7, hu_7, h⟩ := bd_ex h
      have hP : va_P G.1 vwCl ([] ++ (CW G q C ++ (NL G q C))) _ := hP
      have hD : va_D A ([] ++ (CW G q C ++ (NL G q C))) := hD
      refine wf_i (Wd := CW G q) [] (NL G q C) (vx_runSW (As := [.ref (q 0), .int x2]) (rest := []) ⟨hx, hb, hml, hown, hts⟩ (kL_retract l hl0 G q C _ x2 u_7 hu_7) (vx_cwSW 2 hts gL_isRetracted_L_retract rfl rfl rfl (by decide +kernel) ⟨Nat.le_of_ble_eq_true rfl, Nat.le_of_ble_eq_true rfl⟩) (xS (fr_mid [] (NL G q C) hP) (fr_midD [] (NL G q C) hD) hS hK hA hE) rfl rfl hl.1 rfl (lv_room (Nat.le_of_ble_eq_true rfl)) dL_isRetracted_24 ⟨Nat.le_of_ble_eq_true rfl, Nat.le_of_ble_eq_true rfl⟩) hP hD hS hA (fun _ => rfl) (fun H locs hP hD hS => ?_)
      rw [← LW_mg] at hP hD
      obtain ⟨C_8, eC_8, h⟩ := ltv_ex h
      rw [← eC_8] at hP hD
      refine lv_ldc (own := RL) (v := -900002) hx hb hown (w_mem hts 1 rfl) dL_isRetracted_27 ?_
      refine lv_icmp_ne (tgt := 36) hx hb dL_isRetracted_29 (by decide) (fun c_29 => ?_) (fun c_29 => ?_)
      · have h := br_F h c_29
        refine lv_iconst (v := 0) hx hb dL_isRetracted_36 (by decide) ?_
        exact MYi.end (Wd := LW G q) hx hb hr hlocks hP hS dL_isRetracted_37 rfl h
      · have h := br_T h c_29
        refine lv_iconst (v := 1) hx hb dL_isRetracted_32 (by decide) ?_
        refine lv_goto (tgt := 37) hx hb dL_isRetracted_33 (by decide) ?_
        exact MYi.end (Wd := LW G q) hx hb hr hlocks hP hS dL_isRetracted_37 rfl h

def rmL_isDone : Room := { frames := 22, cells := 2, slots := 256, locals := 555 }

set_option maxHeartbeats 4000000 in
set_option maxRecDepth 100000 in
theorem wL_isDone_158 {p : Program} {l : Launch} {e : Env} {s : State} {m : MethodId} {args : Array Value} {below : List Frame} {meth : Method} {c : Code} {G : GT} {q : Nat → Nat} {A : Nat → Prop} {T : SC} {sb : Nat} {out : Int32 × St} (bx : BX p RL wsL_isDone cL_isDone 7 (some .boolean) s m args meth c) (hA : ∀ q : Nat, s.heap.size ≤ q → A q) (hK : CK G s) (hl0 : l.stackTraces = false) (hE : XE A s) (hX : va_X sb T.1 T.2 s s.heap) (hbl : sb < s.heap.size) (hbA : ¬ A sb) (C : St) (t2 : Int32) (t3 : Int32) (h : pL_isDone_158 T C t2 t3 = some out) {H : Heap} {locs : List Loc} (hP : va_P G.1 vwCl (LW G q C) H) (hD : va_D A (LW G q C)) (hS : va_S A s.heap H locs) (ls : Array Slot) (hl : lv_has ls 7 []) : W p l e rmL_isDone s m args below meth c H locs 0 0 (MYi G (LW G q) A s args below out 2 256) (F0 m 158 ls [.int t3, .int t2, .ref (q 20), .ref (q 0)]) := by
  obtain ⟨hx, hb, hr, hts, hown, hml, hlocks⟩ := id bx
  unfold pL_isDone_158 at h
  obtain ⟨u_11, hu_11, h⟩ := bd_ex h
  refine wg_i (Wd := LW G q) (va_runS (As := [.ref (q 0), .ref (q 20), .int t2, .int t3]) (rest := []) ⟨hx, hb, hml, hown, hts⟩ (kL_isMandatory l hl0 G q C _ t2 t3 u_11 hu_11) (va_cwS 4 hts gL_isDone_L_isMandatory rfl rfl rfl (by decide +kernel) ⟨Nat.le_of_ble_eq_true rfl, Nat.le_of_ble_eq_true rfl⟩) (xS hP hD hS hK hA hE) rfl rfl hl.1 rfl (lv_room (Nat.le_of_ble_eq_true rfl)) dL_isDone_158 ⟨Nat.le_of_ble_eq_true rfl, Nat.le_of_ble_eq_true rfl⟩) hD hS hA (fun _ => rfl) (fun H locs hP hD hS => ?_)
  obtain ⟨g161, h⟩ := gd_ex h
  exact MYi.end (Wd := LW G q) hx hb hr hlocks hP hS dL_isDone_161 (okZ_n g161) h

set_option maxHeartbeats 4000000 in
set_option maxRecDepth 100000 in
theorem wL_isDone_228 {p : Program} {l : Launch} {e : Env} {s : State} {m : MethodId} {args : Array Value} {below : List Frame} {meth : Method} {c : Code} {G : GT} {q : Nat → Nat} {A : Nat → Prop} {T : SC} {sb : Nat} {out : Int32 × St} (bx : BX p RL wsL_isDone cL_isDone 7 (some .boolean) s m args meth c) (hA : ∀ q : Nat, s.heap.size ≤ q → A q) (hK : CK G s) (hl0 : l.stackTraces = false) (hE : XE A s) (hX : va_X sb T.1 T.2 s s.heap) (hbl : sb < s.heap.size) (hbA : ¬ A sb) (C : St) (t2 : Int32) (t3 : Int32) (h : pL_isDone_228 T C t2 t3 = some out) {H : Heap} {locs : List Loc} (hP : va_P G.1 vwCl (LW G q C) H) (hD : va_D A (LW G q C)) (hS : va_S A s.heap H locs) (ls : Array Slot) (hl : lv_has ls 7 []) : W p l e rmL_isDone s m args below meth c H locs 0 0 (MYi G (LW G q) A s args below out 2 256) (F0 m 228 ls [.int t3, .int t2, .ref (q 20), .ref (q 0)]) := by
  obtain ⟨hx, hb, hr, hts, hown, hml, hlocks⟩ := id bx
  unfold pL_isDone_228 at h
  obtain ⟨u_24, hu_24, h⟩ := bd_ex h
  refine wg_i (Wd := LW G q) (va_runS (As := [.ref (q 0), .ref (q 20), .int t2, .int t3]) (rest := []) ⟨hx, hb, hml, hown, hts⟩ (kL_isDecided l hl0 G q C _ t2 t3 u_24 hu_24) (va_cwS 4 hts gL_isDone_L_isDecided rfl rfl rfl (by decide +kernel) ⟨Nat.le_of_ble_eq_true rfl, Nat.le_of_ble_eq_true rfl⟩) (xS hP hD hS hK hA hE) rfl rfl hl.1 rfl (lv_room (Nat.le_of_ble_eq_true rfl)) dL_isDone_228 ⟨Nat.le_of_ble_eq_true rfl, Nat.le_of_ble_eq_true rfl⟩) hD hS hA (fun _ => rfl) (fun H locs hP hD hS => ?_)
  obtain ⟨g231, h⟩ := gd_ex h
  exact MYi.end (Wd := LW G q) hx hb hr hlocks hP hS dL_isDone_231 (okZ_n g231) h

set_option maxHeartbeats 4000000 in
set_option maxRecDepth 100000 in
theorem kL_isDone (l : Launch) (hl0 : l.stackTraces = false) (G : GT) (q : Nat → Nat) (sb : Nat) (T : SC) (C : St) (sz : Nat) (x3 : Int32) (r : Int32 × St) (h : pL_isDone T C x3 = some r) : Met l yL_isDone wsL_isDone rmL_isDone (va_Pc [.ref (q 0), .ref (q 20), .ref sb, .int x3] (xsP G (LW G q C) sz sb T)) (va_Qi (fun v u => (v, u) = r) (fun u t => va_P G.1 vwCl (LW G q u) t.heap) (va_A (LW G q C) sz)) 2 256 (va_A (LW G q C) sz) := by
  refine Met.ofW (cc := cL_isDone) (maxL := 7) (ret := (some .boolean)) (by decide) rfl ?_
  intro p e s m args below meth c s₁ B hml hv
  obtain ⟨rfl, ⟨⟨hsz, hP, hK, hD0⟩, hE⟩, hX, hbl, hbA⟩ := hv
  have bx := bx_of B hml
  subst hsz
  have hD := hD0.self (sz := s.heap.size)
  generalize hAe : va_A (LW G q C) s.heap.size = A at hD hE hbA ⊢
  have hA : ∀ q : Nat, s.heap.size ≤ q → A q := fun q h => by rw [← hAe]; exact Or.inr h
  have hS : va_S A s.heap s.heap [] := va_S.rf
  obtain ⟨hx, hb, hr, hts, hown, hml, hlocks⟩ := id bx
  have hl := lv_entry ([.ref (q 0), .ref (q 20), .ref sb, .int x3]) (n := 7) (Nat.le_of_ble_eq_true rfl)
  rw [lg_entry_eq]
  generalize (lg_sl ([.ref (q 0), .ref (q 20), .ref sb, .int x3]) ++ List.replicate (7 - (lg_sl ([.ref (q 0), .ref (q 20), .ref sb, .int x3])).length) Slot.unset).toArray = ls at hl ⊢
  have hl : lv_has ls 7 [(0, .ref (q 0)), (1, .ref (q 20)), (2, .ref sb), (3, .int x3)] := hl
  show W p l e rmL_isDone s m _ below meth c s.heap [] 0 0 (MYi G (LW G q) A s _ below r 2 256) (F0 m 0 ls [])
  unfold pL_isDone at h
  refine lv_aload_n hx hb dL_isDone_0 rfl (lv_at hl 2 rfl) ?_
  refine lv_iload_n hx hb dL_isDone_1 rfl (lv_at hl 3 rfl) ?_
  refine lv_iconst (v := 1) hx hb dL_isDone_2 (by decide) ?_
  refine lv_iadd hx hb dL_isDone_3 ?_
  refine lv_aload_n hx hb dL_isDone_4 rfl (lv_at hl 1 rfl) ?_
  refine lv_iconst (v := 0) hx hb dL_isDone_5 (by decide) ?_
  obtain ⟨g6, h⟩ := gd_ex h
  refine va_iald (D := G.1) hx hb hK.1 hP 20 0 rfl rfl g6 dL_isDone_6 ?_
  obtain ⟨r_1, hr_1, h⟩ := bd_ex h
  refine ro_i (va_runS (As := [.ref sb, .int (x3 + 1), .int (C.2 14 (0 : Int32).toNatClampNeg)]) (rest := []) ⟨hx, hb, hml, hown, hts⟩ (kL_in l sb T (x3 + 1) (C.2 14 (0 : Int32).toNatClampNeg) r_1 hr_1) (va_cwS 3 hts gL_isDone_L_in rfl rfl rfl (by decide +kernel) ⟨Nat.le_of_ble_eq_true rfl, Nat.le_of_ble_eq_true rfl⟩) (scS hX hbl hbA hS) rfl rfl hl.1 rfl (lv_room (Nat.le_of_ble_eq_true rfl)) dL_isDone_7 ⟨Nat.le_of_ble_eq_true rfl, Nat.le_of_ble_eq_true rfl⟩) ?_
  refine lv_istore (lv' := [(4, .int r_1), (0, .ref (q 0)), (1, .ref (q 20)), (2, .ref sb), (3, .int x3)]) hx hb dL_isDone_10 hl (by decide) rfl (fun ls hl => ?_)
  refine lv_aload_n hx hb dL_isDone_12 rfl (lv_at hl 3 rfl) ?_
  refine lv_iload_n hx hb dL_isDone_13 rfl (lv_at hl 4 rfl) ?_
  refine lv_iconst (v := 2) hx hb dL_isDone_14 (by decide) ?_
  refine lv_iadd hx hb dL_isDone_15 ?_
  refine lv_aload_n hx hb dL_isDone_16 rfl (lv_at hl 2 rfl) ?_
  refine lv_iconst (v := 0) hx hb dL_isDone_17 (by decide) ?_
  obtain ⟨g18, h⟩ := gd_ex h
  refine va_iald (D := G.1) hx hb hK.1 hP 20 0 rfl rfl g18 dL_isDone_18 ?_
  obtain ⟨r_2, hr_2, h⟩ := bd_ex h
  refine ro_i (va_runS (As := [.ref sb, .int (x3 + 2), .int (C.2 14 (0 : Int32).toNatClampNeg)]) (rest := []) ⟨hx, hb, hml, hown, hts⟩ (kL_in l sb T (x3 + 2) (C.2 14 (0 : Int32).toNatClampNeg) r_2 hr_2) (va_cwS 3 hts gL_isDone_L_in rfl rfl rfl (by decide +kernel) ⟨Nat.le_of_ble_eq_true rfl, Nat.le_of_ble_eq_true rfl⟩) (scS hX hbl hbA hS) rfl rfl hl.1 rfl (lv_room (Nat.le_of_ble_eq_true rfl)) dL_isDone_19 ⟨Nat.le_of_ble_eq_true rfl, Nat.le_of_ble_eq_true rfl⟩) ?_
  refine lv_istore (lv' := [(5, .int r_2), (4, .int r_1), (0, .ref (q 0)), (1, .ref (q 20)), (2, .ref sb), (3, .int x3)]) hx hb dL_isDone_22 hl (by decide) rfl (fun ls hl => ?_)
  refine lv_aload_n hx hb dL_isDone_24 rfl (lv_at hl 4 rfl) ?_
  refine lv_iload_n hx hb dL_isDone_25 rfl (lv_at hl 5 rfl) ?_
  refine lv_bipush (v := 16) hx hb dL_isDone_26 (by decide) ?_
  obtain ⟨r_3, hr_3, h⟩ := bd_ex h
  refine ro_i (va_runS (As := [.ref sb, .int x3, .int 16]) (rest := []) ⟨hx, hb, hml, hown, hts⟩ (kL_in l sb T x3 16 r_3 hr_3) (va_cwS 3 hts gL_isDone_L_in rfl rfl rfl (by decide +kernel) ⟨Nat.le_of_ble_eq_true rfl, Nat.le_of_ble_eq_true rfl⟩) (scS hX hbl hbA hS) rfl rfl hl.1 rfl (lv_room (Nat.le_of_ble_eq_true rfl)) dL_isDone_28 ⟨Nat.le_of_ble_eq_true rfl, Nat.le_of_ble_eq_true rfl⟩) ?_
  by_cases c_31_0 : r_3 = 0
  · have h := br_T h c_31_0
    refine lv_tableIn (tgt := 104) hx hb dL_isDone_31 (by rw [c_31_0]; decide) (by rw [c_31_0]; decide) (off := 73) (by rw [c_31_0]; decide) (by decide) ?_
    refine lv_aload_n hx hb dL_isDone_104 rfl (lv_at hl 2 rfl) ?_
    refine lv_aload_n hx hb dL_isDone_105 rfl (lv_at hl 3 rfl) ?_
    refine lv_aload_n hx hb dL_isDone_106 rfl (lv_at hl 4 rfl) ?_
    refine lv_iload_n hx hb dL_isDone_107 rfl (lv_at hl 5 rfl) ?_
    refine lv_iconst (v := 1) hx hb dL_isDone_108 (by decide) ?_
    refine lv_iadd hx hb dL_isDone_109 ?_
    obtain ⟨u_4, hu_4, h⟩ := bd_ex h
    refine wg_i (Wd := LW G q) (va_runS (As := [.ref (q 0), .ref (q 20), .ref sb, .int (x3 + 1)]) (rest := []) ⟨hx, hb, hml, hown, hts⟩ (kL_isFeature l hl0 G q sb T C _ (x3 + 1) u_4 hu_4) (va_cwS 4 hts gL_isDone_L_isFeature rfl rfl rfl (by decide +kernel) ⟨Nat.le_of_ble_eq_true rfl, Nat.le_of_ble_eq_true rfl⟩) (xsS hP hD hS hK hA hE hX hbl hbA) rfl rfl hl.1 rfl (lv_room (Nat.le_of_ble_eq_true rfl)) dL_isDone_110 ⟨Nat.le_of_ble_eq_true rfl, Nat.le_of_ble_eq_true rfl⟩) hD hS hA (fun _ => rfl) (fun H locs hP hD hS => ?_)
    obtain ⟨g113, h⟩ := gd_ex h
    refine W.widen (k := 2) (n := 256) (Nat.le_of_ble_eq_true rfl) (Nat.le_of_ble_eq_true rfl) ?_
    exact MYi.end (Wd := LW G q) hx hb hr hlocks hP hS dL_isDone_113 (okZ_n g113) h
  · have h := br_F h c_31_0
    by_cases c_31_1 : r_3 = 1
    · have h := br_T h c_31_1
      refine lv_tableIn (tgt := 104) hx hb dL_isDone_31 (by rw [c_31_1]; decide) (by rw [c_31_1]; decide) (off := 73) (by rw [c_31_1]; decide) (by decide) ?_
      refine lv_aload_n hx hb dL_isDone_104 rfl (lv_at hl 2 rfl) ?_
      refine lv_aload_n hx hb dL_isDone_105 rfl (lv_at hl 3 rfl) ?_
      refine lv_aload_n hx hb dL_isDone_106 rfl (lv_at hl 4 rfl) ?_
      refine lv_iload_n hx hb dL_isDone_107 rfl (lv_at hl 5 rfl) ?_
      refine lv_iconst (v := 1) hx hb dL_isDone_108 (by decide) ?_
      refine lv_iadd hx hb dL_isDone_109 ?_
      obtain ⟨u_5, hu_5, h⟩ := bd_ex h
      refine wg_i (Wd := LW G q) (va_runS (As := [.ref (q 0), .ref (q 20), .ref sb, .int (x3 + 1)]) (rest := []) ⟨hx, hb, hml, hown, hts⟩ (kL_isFeature l hl0 G q sb T C _ (x3 + 1) u_5 hu_5) (va_cwS 4 hts gL_isDone_L_isFeature rfl rfl rfl (by decide +kernel) ⟨Nat.le_of_ble_eq_true rfl, Nat.le_of_ble_eq_true rfl⟩) (xsS hP hD hS hK hA hE hX hbl hbA) rfl rfl hl.1 rfl (lv_room (Nat.le_of_ble_eq_true rfl)) dL_isDone_110 ⟨Nat.le_of_ble_eq_true rfl, Nat.le_of_ble_eq_true rfl⟩) hD hS hA (fun _ => rfl) (fun H locs hP hD hS => ?_)
      obtain ⟨g113, h⟩ := gd_ex h
      refine W.widen (k := 2) (n := 256) (Nat.le_of_ble_eq_true rfl) (Nat.le_of_ble_eq_true rfl) ?_
      exact MYi.end (Wd := LW G q) hx hb hr hlocks hP hS dL_isDone_113 (okZ_n g113) h
    · have h := br_F h c_31_1
      by_cases c_31_2 : r_3 = 2
      · have h := br_T h c_31_2
        refine lv_tableIn (tgt := 104) hx hb dL_isDone_31 (by rw [c_31_2]; decide) (by rw [c_31_2]; decide) (off := 73) (by rw [c_31_2]; decide) (by decide) ?_
        refine lv_aload_n hx hb dL_isDone_104 rfl (lv_at hl 2 rfl) ?_
        refine lv_aload_n hx hb dL_isDone_105 rfl (lv_at hl 3 rfl) ?_
        refine lv_aload_n hx hb dL_isDone_106 rfl (lv_at hl 4 rfl) ?_
        refine lv_iload_n hx hb dL_isDone_107 rfl (lv_at hl 5 rfl) ?_
        refine lv_iconst (v := 1) hx hb dL_isDone_108 (by decide) ?_
        refine lv_iadd hx hb dL_isDone_109 ?_
        obtain ⟨u_6, hu_6, h⟩ := bd_ex h
        refine wg_i (Wd := LW G q) (va_runS (As := [.ref (q 0), .ref (q 20), .ref sb, .int (x3 + 1)]) (rest := []) ⟨hx, hb, hml, hown, hts⟩ (kL_isFeature l hl0 G q sb T C _ (x3 + 1) u_6 hu_6) (va_cwS 4 hts gL_isDone_L_isFeature rfl rfl rfl (by decide +kernel) ⟨Nat.le_of_ble_eq_true rfl, Nat.le_of_ble_eq_true rfl⟩) (xsS hP hD hS hK hA hE hX hbl hbA) rfl rfl hl.1 rfl (lv_room (Nat.le_of_ble_eq_true rfl)) dL_isDone_110 ⟨Nat.le_of_ble_eq_true rfl, Nat.le_of_ble_eq_true rfl⟩) hD hS hA (fun _ => rfl) (fun H locs hP hD hS => ?_)
        obtain ⟨g113, h⟩ := gd_ex h
        refine W.widen (k := 2) (n := 256) (Nat.le_of_ble_eq_true rfl) (Nat.le_of_ble_eq_true rfl) ?_
        exact MYi.end (Wd := LW G q) hx hb hr hlocks hP hS dL_isDone_113 (okZ_n g113) h
      · have h := br_F h c_31_2
        by_cases c_31_3 : r_3 = 3
        · have h := br_T h c_31_3
          refine lv_tableIn (tgt := 114) hx hb dL_isDone_31 (by rw [c_31_3]; decide) (by rw [c_31_3]; decide) (off := 83) (by rw [c_31_3]; decide) (by decide) ?_
          refine lv_aload_n hx hb dL_isDone_114 rfl (lv_at hl 2 rfl) ?_
          refine lv_aload_n hx hb dL_isDone_115 rfl (lv_at hl 3 rfl) ?_
          refine lv_iload hx hb dL_isDone_116 (lv_at hl 1 rfl) ?_
          refine lv_aload_n hx hb dL_isDone_118 rfl (lv_at hl 4 rfl) ?_
          refine lv_iload_n hx hb dL_isDone_119 rfl (lv_at hl 5 rfl) ?_
          refine lv_iconst (v := 2) hx hb dL_isDone_120 (by decide) ?_
          refine lv_iadd hx hb dL_isDone_121 ?_
          refine lv_iconst (v := 3) hx hb dL_isDone_122 (by decide) ?_
          obtain ⟨r_7, hr_7, h⟩ := bd_ex h
          refine ro_i (va_runS (As := [.ref sb, .int (x3 + 2), .int 3]) (rest := [.int r_1, .ref (q 20), .ref (q 0)]) ⟨hx, hb, hml, hown, hts⟩ (kL_in l sb T (x3 + 2) 3 r_7 hr_7) (va_cwS 3 hts gL_isDone_L_in rfl rfl rfl (by decide +kernel) ⟨Nat.le_of_ble_eq_true rfl, Nat.le_of_ble_eq_true rfl⟩) (scS hX hbl hbA hS) rfl rfl hl.1 rfl (lv_room (Nat.le_of_ble_eq_true rfl)) dL_isDone_123 ⟨Nat.le_of_ble_eq_true rfl, Nat.le_of_ble_eq_true rfl⟩) ?_
          refine lv_aload_n hx hb dL_isDone_126 rfl (lv_at hl 4 rfl) ?_
          refine lv_iload_n hx hb dL_isDone_127 rfl (lv_at hl 5 rfl) ?_
          refine lv_iconst (v := 3) hx hb dL_isDone_128 (by decide) ?_
          refine lv_iadd hx hb dL_isDone_129 ?_
          refine lv_iconst (v := 4) hx hb dL_isDone_130 (by decide) ?_
          obtain ⟨r_8, hr_8, h⟩ := bd_ex h
          refine ro_i (va_runS (As := [.ref sb, .int (x3 + 3), .int 4]) (rest := [.int r_7, .int r_1, .ref (q 20), .ref (q 0)]) ⟨hx, hb, hml, hown, hts⟩ (kL_in l sb T (x3 + 3) 4 r_8 hr_8) (va_cwS 3 hts gL_isDone_L_in rfl rfl rfl (by decide +kernel) ⟨Nat.le_of_ble_eq_true rfl, Nat.le_of_ble_eq_true rfl⟩) (scS hX hbl hbA hS) rfl rfl hl.1 rfl (lv_room (Nat.le_of_ble_eq_true rfl)) dL_isDone_131 ⟨Nat.le_of_ble_eq_true rfl, Nat.le_of_ble_eq_true rfl⟩) ?_
          obtain ⟨u_9, hu_9, h⟩ := bd_ex h
          refine wg_i (Wd := LW G q) (va_runS (As := [.ref (q 0), .ref (q 20), .int r_1, .int r_7, .int r_8]) (rest := []) ⟨hx, hb, hml, hown, hts⟩ (kL_isGroup l hl0 G q C _ r_1 r_7 r_8 u_9 hu_9) (va_cwS 5 hts gL_isDone_L_isGroup rfl rfl rfl (by decide +kernel) ⟨Nat.le_of_ble_eq_true rfl, Nat.le_of_ble_eq_true rfl⟩) (xS hP hD hS hK hA hE) rfl rfl hl.1 rfl (lv_room (Nat.le_of_ble_eq_true rfl)) dL_isDone_134 ⟨Nat.le_of_ble_eq_true rfl, Nat.le_of_ble_eq_true rfl⟩) hD hS hA (fun _ => rfl) (fun H locs hP hD hS => ?_)
          obtain ⟨g137, h⟩ := gd_ex h
          exact MYi.end (Wd := LW G q) hx hb hr hlocks hP hS dL_isDone_137 (okZ_n g137) h
        · have h := br_F h c_31_3
          by_cases c_31_4 : r_3 = 4
          · have h := br_T h c_31_4
            refine lv_tableIn (tgt := 138) hx hb dL_isDone_31 (by rw [c_31_4]; decide) (by rw [c_31_4]; decide) (off := 107) (by rw [c_31_4]; decide) (by decide) ?_
            refine lv_aload_n hx hb dL_isDone_138 rfl (lv_at hl 2 rfl) ?_
            refine lv_aload_n hx hb dL_isDone_139 rfl (lv_at hl 3 rfl) ?_
            refine lv_iload hx hb dL_isDone_140 (lv_at hl 1 rfl) ?_
            refine lv_aload_n hx hb dL_isDone_142 rfl (lv_at hl 4 rfl) ?_
            refine lv_iload_n hx hb dL_isDone_143 rfl (lv_at hl 5 rfl) ?_
            refine lv_iconst (v := 2) hx hb dL_isDone_144 (by decide) ?_
            refine lv_iadd hx hb dL_isDone_145 ?_
            refine lv_iconst (v := 3) hx hb dL_isDone_146 (by decide) ?_
            obtain ⟨r_10, hr_10, h⟩ := bd_ex h
            refine ro_i (va_runS (As := [.ref sb, .int (x3 + 2), .int 3]) (rest := [.int r_1, .ref (q 20), .ref (q 0)]) ⟨hx, hb, hml, hown, hts⟩ (kL_in l sb T (x3 + 2) 3 r_10 hr_10) (va_cwS 3 hts gL_isDone_L_in rfl rfl rfl (by decide +kernel) ⟨Nat.le_of_ble_eq_true rfl, Nat.le_of_ble_eq_true rfl⟩) (scS hX hbl hbA hS) rfl rfl hl.1 rfl (lv_room (Nat.le_of_ble_eq_true rfl)) dL_isDone_147 ⟨Nat.le_of_ble_eq_true rfl, Nat.le_of_ble_eq_true rfl⟩) ?_
            refine lv_if_le (tgt := 157) hx hb dL_isDone_150 (by decide) (fun c_150 => ?_) (fun c_150 => ?_)
            · have h := br_T h c_150
              refine lv_iconst (v := 0) hx hb dL_isDone_157 (by decide) ?_
              exact wL_isDone_158 bx hA hK hl0 hE hX hbl hbA C r_1 0 h hP hD hS _ (lv_sub hl [] rfl)
            · have h := br_F h c_150
              refine lv_iconst (v := 1) hx hb dL_isDone_153 (by decide) ?_
              refine lv_goto (tgt := 158) hx hb dL_isDone_154 (by decide) ?_
              exact wL_isDone_158 bx hA hK hl0 hE hX hbl hbA C r_1 1 h hP hD hS _ (lv_sub hl [] rfl)
          · have h := br_F h c_31_4
            by_cases c_31_5 : r_3 = 5
            · have h := br_T h c_31_5
              refine lv_tableIn (tgt := 162) hx hb dL_isDone_31 (by rw [c_31_5]; decide) (by rw [c_31_5]; decide) (off := 131) (by rw [c_31_5]; decide) (by decide) ?_
              refine lv_aload_n hx hb dL_isDone_162 rfl (lv_at hl 2 rfl) ?_
              refine lv_aload_n hx hb dL_isDone_163 rfl (lv_at hl 3 rfl) ?_
              refine lv_aload_n hx hb dL_isDone_164 rfl (lv_at hl 4 rfl) ?_
              refine lv_iload_n hx hb dL_isDone_165 rfl (lv_at hl 5 rfl) ?_
              refine lv_iconst (v := 4) hx hb dL_isDone_166 (by decide) ?_
              refine lv_iadd hx hb dL_isDone_167 ?_
              refine lv_iconst (v := 3) hx hb dL_isDone_168 (by decide) ?_
              obtain ⟨r_12, hr_12, h⟩ := bd_ex h
              refine ro_i (va_runS (As := [.ref sb, .int (x3 + 4), .int 3]) (rest := [.ref (q 20), .ref (q 0)]) ⟨hx, hb, hml, hown, hts⟩ (kL_in l sb T (x3 + 4) 3 r_12 hr_12) (va_cwS 3 hts gL_isDone_L_in rfl rfl rfl (by decide +kernel) ⟨Nat.le_of_ble_eq_true rfl, Nat.le_of_ble_eq_true rfl⟩) (scS hX hbl hbA hS) rfl rfl hl.1 rfl (lv_room (Nat.le_of_ble_eq_true rfl)) dL_isDone_169 ⟨Nat.le_of_ble_eq_true rfl, Nat.le_of_ble_eq_true rfl⟩) ?_
              refine lv_iload hx hb dL_isDone_172 (lv_at hl 1 rfl) ?_
              refine lv_iload hx hb dL_isDone_174 (lv_at hl 0 rfl) ?_
              refine lv_aload_n hx hb dL_isDone_176 rfl (lv_at hl 4 rfl) ?_
              refine lv_iload_n hx hb dL_isDone_177 rfl (lv_at hl 5 rfl) ?_
              refine lv_iconst (v := 3) hx hb dL_isDone_178 (by decide) ?_
              refine lv_iadd hx hb dL_isDone_179 ?_
              refine lv_aload_n hx hb dL_isDone_180 rfl (lv_at hl 3 rfl) ?_
              refine lv_iconst (v := 0) hx hb dL_isDone_181 (by decide) ?_
              obtain ⟨g182, h⟩ := gd_ex h
              refine va_iald (D := G.1) hx hb hK.1 hP 20 0 rfl rfl g182 dL_isDone_182 ?_
              obtain ⟨r_13, hr_13, h⟩ := bd_ex h
              refine ro_i (va_runS (As := [.ref sb, .int (x3 + 3), .int (C.2 14 (0 : Int32).toNatClampNeg)]) (rest := [.int r_2, .int r_1, .int r_12, .ref (q 20), .ref (q 0)]) ⟨hx, hb, hml, hown, hts⟩ (kL_in l sb T (x3 + 3) (C.2 14 (0 : Int32).toNatClampNeg) r_13 hr_13) (va_cwS 3 hts gL_isDone_L_in rfl rfl rfl (by decide +kernel) ⟨Nat.le_of_ble_eq_true rfl, Nat.le_of_ble_eq_true rfl⟩) (scS hX hbl hbA hS) rfl rfl hl.1 rfl (lv_room (Nat.le_of_ble_eq_true rfl)) dL_isDone_183 ⟨Nat.le_of_ble_eq_true rfl, Nat.le_of_ble_eq_true rfl⟩) ?_
              obtain ⟨u_14, hu_14, h⟩ := bd_ex h
              refine wg_i (Wd := LW G q) (va_runS (As := [.ref (q 0), .ref (q 20), .int r_12, .int r_1, .int r_2, .int r_13]) (rest := []) ⟨hx, hb, hml, hown, hts⟩ (kL_isRule l hl0 G q C _ r_12 r_1 r_2 r_13 u_14 hu_14) (va_cwS 6 hts gL_isDone_L_isRule rfl rfl rfl (by decide +kernel) ⟨Nat.le_of_ble_eq_true rfl, Nat.le_of_ble_eq_true rfl⟩) (xS hP hD hS hK hA hE) rfl rfl hl.1 rfl (lv_room (Nat.le_of_ble_eq_true rfl)) dL_isDone_186 ⟨Nat.le_of_ble_eq_true rfl, Nat.le_of_ble_eq_true rfl⟩) hD hS hA (fun _ => rfl) (fun H locs hP hD hS => ?_)
              obtain ⟨g189, h⟩ := gd_ex h
              exact MYi.end (Wd := LW G q) hx hb hr hlocks hP hS dL_isDone_189 (okZ_n g189) h
            · have h := br_F h c_31_5
              by_cases c_31_6 : r_3 = 6
              · have h := br_T h c_31_6
                refine lv_tableIn (tgt := 162) hx hb dL_isDone_31 (by rw [c_31_6]; decide) (by rw [c_31_6]; decide) (off := 131) (by rw [c_31_6]; decide) (by decide) ?_
                refine lv_aload_n hx hb dL_isDone_162 rfl (lv_at hl 2 rfl) ?_
                refine lv_aload_n hx hb dL_isDone_163 rfl (lv_at hl 3 rfl) ?_
                refine lv_aload_n hx hb dL_isDone_164 rfl (lv_at hl 4 rfl) ?_
                refine lv_iload_n hx hb dL_isDone_165 rfl (lv_at hl 5 rfl) ?_
                refine lv_iconst (v := 4) hx hb dL_isDone_166 (by decide) ?_
                refine lv_iadd hx hb dL_isDone_167 ?_
                refine lv_iconst (v := 3) hx hb dL_isDone_168 (by decide) ?_
                obtain ⟨r_15, hr_15, h⟩ := bd_ex h
                refine ro_i (va_runS (As := [.ref sb, .int (x3 + 4), .int 3]) (rest := [.ref (q 20), .ref (q 0)]) ⟨hx, hb, hml, hown, hts⟩ (kL_in l sb T (x3 + 4) 3 r_15 hr_15) (va_cwS 3 hts gL_isDone_L_in rfl rfl rfl (by decide +kernel) ⟨Nat.le_of_ble_eq_true rfl, Nat.le_of_ble_eq_true rfl⟩) (scS hX hbl hbA hS) rfl rfl hl.1 rfl (lv_room (Nat.le_of_ble_eq_true rfl)) dL_isDone_169 ⟨Nat.le_of_ble_eq_true rfl, Nat.le_of_ble_eq_true rfl⟩) ?_
                refine lv_iload hx hb dL_isDone_172 (lv_at hl 1 rfl) ?_
                refine lv_iload hx hb dL_isDone_174 (lv_at hl 0 rfl) ?_
                refine lv_aload_n hx hb dL_isDone_176 rfl (lv_at hl 4 rfl) ?_
                refine lv_iload_n hx hb dL_isDone_177 rfl (lv_at hl 5 rfl) ?_
                refine lv_iconst (v := 3) hx hb dL_isDone_178 (by decide) ?_
                refine lv_iadd hx hb dL_isDone_179 ?_
                refine lv_aload_n hx hb dL_isDone_180 rfl (lv_at hl 3 rfl) ?_
                refine lv_iconst (v := 0) hx hb dL_isDone_181 (by decide) ?_
                obtain ⟨g182, h⟩ := gd_ex h
                refine va_iald (D := G.1) hx hb hK.1 hP 20 0 rfl rfl g182 dL_isDone_182 ?_
                obtain ⟨r_16, hr_16, h⟩ := bd_ex h
                refine ro_i (va_runS (As := [.ref sb, .int (x3 + 3), .int (C.2 14 (0 : Int32).toNatClampNeg)]) (rest := [.int r_2, .int r_1, .int r_15, .ref (q 20), .ref (q 0)]) ⟨hx, hb, hml, hown, hts⟩ (kL_in l sb T (x3 + 3) (C.2 14 (0 : Int32).toNatClampNeg) r_16 hr_16) (va_cwS 3 hts gL_isDone_L_in rfl rfl rfl (by decide +kernel) ⟨Nat.le_of_ble_eq_true rfl, Nat.le_of_ble_eq_true rfl⟩) (scS hX hbl hbA hS) rfl rfl hl.1 rfl (lv_room (Nat.le_of_ble_eq_true rfl)) dL_isDone_183 ⟨Nat.le_of_ble_eq_true rfl, Nat.le_of_ble_eq_true rfl⟩) ?_
                obtain ⟨u_17, hu_17, h⟩ := bd_ex h
                refine wg_i (Wd := LW G q) (va_runS (As := [.ref (q 0), .ref (q 20), .int r_15, .int r_1, .int r_2, .int r_16]) (rest := []) ⟨hx, hb, hml, hown, hts⟩ (kL_isRule l hl0 G q C _ r_15 r_1 r_2 r_16 u_17 hu_17) (va_cwS 6 hts gL_isDone_L_isRule rfl rfl rfl (by decide +kernel) ⟨Nat.le_of_ble_eq_true rfl, Nat.le_of_ble_eq_true rfl⟩) (xS hP hD hS hK hA hE) rfl rfl hl.1 rfl (lv_room (Nat.le_of_ble_eq_true rfl)) dL_isDone_186 ⟨Nat.le_of_ble_eq_true rfl, Nat.le_of_ble_eq_true rfl⟩) hD hS hA (fun _ => rfl) (fun H locs hP hD hS => ?_)
                obtain ⟨g189, h⟩ := gd_ex h
                exact MYi.end (Wd := LW G q) hx hb hr hlocks hP hS dL_isDone_189 (okZ_n g189) h
              · have h := br_F h c_31_6
                by_cases c_31_7 : r_3 = 7
                · have h := br_T h c_31_7
                  refine lv_tableIn (tgt := 162) hx hb dL_isDone_31 (by rw [c_31_7]; decide) (by rw [c_31_7]; decide) (off := 131) (by rw [c_31_7]; decide) (by decide) ?_
                  refine lv_aload_n hx hb dL_isDone_162 rfl (lv_at hl 2 rfl) ?_
                  refine lv_aload_n hx hb dL_isDone_163 rfl (lv_at hl 3 rfl) ?_
                  refine lv_aload_n hx hb dL_isDone_164 rfl (lv_at hl 4 rfl) ?_
                  refine lv_iload_n hx hb dL_isDone_165 rfl (lv_at hl 5 rfl) ?_
                  refine lv_iconst (v := 4) hx hb dL_isDone_166 (by decide) ?_
                  refine lv_iadd hx hb dL_isDone_167 ?_
                  refine lv_iconst (v := 3) hx hb dL_isDone_168 (by decide) ?_
                  obtain ⟨r_18, hr_18, h⟩ := bd_ex h
                  refine ro_i (va_runS (As := [.ref sb, .int (x3 + 4), .int 3]) (rest := [.ref (q 20), .ref (q 0)]) ⟨hx, hb, hml, hown, hts⟩ (kL_in l sb T (x3 + 4) 3 r_18 hr_18) (va_cwS 3 hts gL_isDone_L_in rfl rfl rfl (by decide +kernel) ⟨Nat.le_of_ble_eq_true rfl, Nat.le_of_ble_eq_true rfl⟩) (scS hX hbl hbA hS) rfl rfl hl.1 rfl (lv_room (Nat.le_of_ble_eq_true rfl)) dL_isDone_169 ⟨Nat.le_of_ble_eq_true rfl, Nat.le_of_ble_eq_true rfl⟩) ?_
                  refine lv_iload hx hb dL_isDone_172 (lv_at hl 1 rfl) ?_
                  refine lv_iload hx hb dL_isDone_174 (lv_at hl 0 rfl) ?_
                  refine lv_aload_n hx hb dL_isDone_176 rfl (lv_at hl 4 rfl) ?_
                  refine lv_iload_n hx hb dL_isDone_177 rfl (lv_at hl 5 rfl) ?_
                  refine lv_iconst (v := 3) hx hb dL_isDone_178 (by decide) ?_
                  refine lv_iadd hx hb dL_isDone_179 ?_
                  refine lv_aload_n hx hb dL_isDone_180 rfl (lv_at hl 3 rfl) ?_
                  refine lv_iconst (v := 0) hx hb dL_isDone_181 (by decide) ?_
                  obtain ⟨g182, h⟩ := gd_ex h
                  refine va_iald (D := G.1) hx hb hK.1 hP 20 0 rfl rfl g182 dL_isDone_182 ?_
                  obtain ⟨r_19, hr_19, h⟩ := bd_ex h
                  refine ro_i (va_runS (As := [.ref sb, .int (x3 + 3), .int (C.2 14 (0 : Int32).toNatClampNeg)]) (rest := [.int r_2, .int r_1, .int r_18, .ref (q 20), .ref (q 0)]) ⟨hx, hb, hml, hown, hts⟩ (kL_in l sb T (x3 + 3) (C.2 14 (0 : Int32).toNatClampNeg) r_19 hr_19) (va_cwS 3 hts gL_isDone_L_in rfl rfl rfl (by decide +kernel) ⟨Nat.le_of_ble_eq_true rfl, Nat.le_of_ble_eq_true rfl⟩) (scS hX hbl hbA hS) rfl rfl hl.1 rfl (lv_room (Nat.le_of_ble_eq_true rfl)) dL_isDone_183 ⟨Nat.le_of_ble_eq_true rfl, Nat.le_of_ble_eq_true rfl⟩) ?_
                  obtain ⟨u_20, hu_20, h⟩ := bd_ex h
                  refine wg_i (Wd := LW G q) (va_runS (As := [.ref (q 0), .ref (q 20), .int r_18, .int r_1, .int r_2, .int r_19]) (rest := []) ⟨hx, hb, hml, hown, hts⟩ (kL_isRule l hl0 G q C _ r_18 r_1 r_2 r_19 u_20 hu_20) (va_cwS 6 hts gL_isDone_L_isRule rfl rfl rfl (by decide +kernel) ⟨Nat.le_of_ble_eq_true rfl, Nat.le_of_ble_eq_true rfl⟩) (xS hP hD hS hK hA hE) rfl rfl hl.1 rfl (lv_room (Nat.le_of_ble_eq_true rfl)) dL_isDone_186 ⟨Nat.le_of_ble_eq_true rfl, Nat.le_of_ble_eq_true rfl⟩) hD hS hA (fun _ => rfl) (fun H locs hP hD hS => ?_)
                  obtain ⟨g189, h⟩ := gd_ex h
                  exact MYi.end (Wd := LW G q) hx hb hr hlocks hP hS dL_isDone_189 (okZ_n g189) h
                · have h := br_F h c_31_7
                  by_cases c_31_8 : r_3 = 8
                  · have h := br_T h c_31_8
                    refine lv_tableIn (tgt := 190) hx hb dL_isDone_31 (by rw [c_31_8]; decide) (by rw [c_31_8]; decide) (off := 159) (by rw [c_31_8]; decide) (by decide) ?_
                    refine lv_aload_n hx hb dL_isDone_190 rfl (lv_at hl 2 rfl) ?_
                    refine lv_aload_n hx hb dL_isDone_191 rfl (lv_at hl 3 rfl) ?_
                    refine lv_aload_n hx hb dL_isDone_192 rfl (lv_at hl 4 rfl) ?_
                    refine lv_iload_n hx hb dL_isDone_193 rfl (lv_at hl 5 rfl) ?_
                    refine lv_iconst (v := 1) hx hb dL_isDone_194 (by decide) ?_
                    refine lv_iadd hx hb dL_isDone_195 ?_
                    refine lv_aload_n hx hb dL_isDone_196 rfl (lv_at hl 3 rfl) ?_
                    refine lv_iconst (v := 1) hx hb dL_isDone_197 (by decide) ?_
                    obtain ⟨g198, h⟩ := gd_ex h
                    refine va_iald (D := G.1) hx hb hK.1 hP 20 0 rfl rfl g198 dL_isDone_198 ?_
                    refine lv_iconst (v := 1) hx hb dL_isDone_199 (by decide) ?_
                    refine lv_iadd hx hb dL_isDone_200 ?_
                    obtain ⟨r_21, hr_21, h⟩ := bd_ex h
                    refine ro_i (va_runS (As := [.ref sb, .int (x3 + 1), .int ((C.2 14 (1 : Int32).toNatClampNeg) + 1)]) (rest := [.ref (q 20), .ref (q 0)]) ⟨hx, hb, hml, hown, hts⟩ (kL_in l sb T (x3 + 1) ((C.2 14 (1 : Int32).toNatClampNeg) + 1) r_21 hr_21) (va_cwS 3 hts gL_isDone_L_in rfl rfl rfl (by decide +kernel) ⟨Nat.le_of_ble_eq_true rfl, Nat.le_of_ble_eq_true rfl⟩) (scS hX hbl hbA hS) rfl rfl hl.1 rfl (lv_room (Nat.le_of_ble_eq_true rfl)) dL_isDone_201 ⟨Nat.le_of_ble_eq_true rfl, Nat.le_of_ble_eq_true rfl⟩) ?_
                    obtain ⟨u_22, hu_22, h⟩ := bd_ex h
                    refine wg_i (Wd := LW G q) (va_runS (As := [.ref (q 0), .ref (q 20), .int r_21]) (rest := []) ⟨hx, hb, hml, hown, hts⟩ (kL_isLifted l hl0 G q C _ r_21 u_22 hu_22) (va_cwS 3 hts gL_isDone_L_isLifted rfl rfl rfl (by decide +kernel) ⟨Nat.le_of_ble_eq_true rfl, Nat.le_of_ble_eq_true rfl⟩) (xS hP hD hS hK hA hE) rfl rfl hl.1 rfl (lv_room (Nat.le_of_ble_eq_true rfl)) dL_isDone_204 ⟨Nat.le_of_ble_eq_true rfl, Nat.le_of_ble_eq_true rfl⟩) hD hS hA (fun _ => rfl) (fun H locs hP hD hS => ?_)
                    obtain ⟨g207, h⟩ := gd_ex h
                    refine W.widen (k := 2) (n := 256) (Nat.le_of_ble_eq_true rfl) (Nat.le_of_ble_eq_true rfl) ?_
                    exact MYi.end (Wd := LW G q) hx hb hr hlocks hP hS dL_isDone_207 (okZ_n g207) h
                  · have h := br_F h c_31_8
                    by_cases c_31_9 : r_3 = 9
                    · have h := br_T h c_31_9
                      refine lv_tableIn (tgt := 208) hx hb dL_isDone_31 (by rw [c_31_9]; decide) (by rw [c_31_9]; decide) (off := 177) (by rw [c_31_9]; decide) (by decide) ?_
                      refine lv_aload_n hx hb dL_isDone_208 rfl (lv_at hl 2 rfl) ?_
                      refine lv_aload_n hx hb dL_isDone_209 rfl (lv_at hl 3 rfl) ?_
                      refine lv_iload hx hb dL_isDone_210 (lv_at hl 1 rfl) ?_
                      refine lv_aload_n hx hb dL_isDone_212 rfl (lv_at hl 4 rfl) ?_
                      refine lv_iload_n hx hb dL_isDone_213 rfl (lv_at hl 5 rfl) ?_
                      refine lv_iconst (v := 3) hx hb dL_isDone_214 (by decide) ?_
                      refine lv_iadd hx hb dL_isDone_215 ?_
                      refine lv_iconst (v := 2) hx hb dL_isDone_216 (by decide) ?_
                      obtain ⟨r_23, hr_23, h⟩ := bd_ex h
                      refine ro_i (va_runS (As := [.ref sb, .int (x3 + 3), .int 2]) (rest := [.int r_1, .ref (q 20), .ref (q 0)]) ⟨hx, hb, hml, hown, hts⟩ (kL_in l sb T (x3 + 3) 2 r_23 hr_23) (va_cwS 3 hts gL_isDone_L_in rfl rfl rfl (by decide +kernel) ⟨Nat.le_of_ble_eq_true rfl, Nat.le_of_ble_eq_true rfl⟩) (scS hX hbl hbA hS) rfl rfl hl.1 rfl (lv_room (Nat.le_of_ble_eq_true rfl)) dL_isDone_217 ⟨Nat.le_of_ble_eq_true rfl, Nat.le_of_ble_eq_true rfl⟩) ?_
                      refine lv_if_ne (tgt := 227) hx hb dL_isDone_220 (by decide) (fun c_220 => ?_) (fun c_220 => ?_)
                      · have h := br_F h c_220
                        refine lv_iconst (v := 0) hx hb dL_isDone_227 (by decide) ?_
                        exact wL_isDone_228 bx hA hK hl0 hE hX hbl hbA C r_1 0 h hP hD hS _ (lv_sub hl [] rfl)
                      · have h := br_T h c_220
                        refine lv_iconst (v := 1) hx hb dL_isDone_223 (by decide) ?_
                        refine lv_goto (tgt := 228) hx hb dL_isDone_224 (by decide) ?_
                        exact wL_isDone_228 bx hA hK hl0 hE hX hbl hbA C r_1 1 h hP hD hS _ (lv_sub hl [] rfl)
                    · have h := br_F h c_31_9
                      by_cases c_31_10 : r_3 = 10
                      · have h := br_T h c_31_10
                        refine lv_tableIn (tgt := 208) hx hb dL_isDone_31 (by rw [c_31_10]; decide) (by rw [c_31_10]; decide) (off := 177) (by rw [c_31_10]; decide) (by decide) ?_
                        refine lv_aload_n hx hb dL_isDone_208 rfl (lv_at hl 2 rfl) ?_
                        refine lv_aload_n hx hb dL_isDone_209 rfl (lv_at hl 3 rfl) ?_
                        refine lv_iload hx hb dL_isDone_210 (lv_at hl 1 rfl) ?_
                        refine lv_aload_n hx hb dL_isDone_212 rfl (lv_at hl 4 rfl) ?_
                        refine lv_iload_n hx hb dL_isDone_213 rfl (lv_at hl 5 rfl) ?_
                        refine lv_iconst (v := 3) hx hb dL_isDone_214 (by decide) ?_
                        refine lv_iadd hx hb dL_isDone_215 ?_
                        refine lv_iconst (v := 2) hx hb dL_isDone_216 (by decide) ?_
                        obtain ⟨r_25, hr_25, h⟩ := bd_ex h
                        refine ro_i (va_runS (As := [.ref sb, .int (x3 + 3), .int 2]) (rest := [.int r_1, .ref (q 20), .ref (q 0)]) ⟨hx, hb, hml, hown, hts⟩ (kL_in l sb T (x3 + 3) 2 r_25 hr_25) (va_cwS 3 hts gL_isDone_L_in rfl rfl rfl (by decide +kernel) ⟨Nat.le_of_ble_eq_true rfl, Nat.le_of_ble_eq_true rfl⟩) (scS hX hbl hbA hS) rfl rfl hl.1 rfl (lv_room (Nat.le_of_ble_eq_true rfl)) dL_isDone_217 ⟨Nat.le_of_ble_eq_true rfl, Nat.le_of_ble_eq_true rfl⟩) ?_
                        refine lv_if_ne (tgt := 227) hx hb dL_isDone_220 (by decide) (fun c_220 => ?_) (fun c_220 => ?_)
                        · have h := br_F h c_220
                          refine lv_iconst (v := 0) hx hb dL_isDone_227 (by decide) ?_
                          exact wL_isDone_228 bx hA hK hl0 hE hX hbl hbA C r_1 0 h hP hD hS _ (lv_sub hl [] rfl)
                        · have h := br_T h c_220
                          refine lv_iconst (v := 1) hx hb dL_isDone_223 (by decide) ?_
                          refine lv_goto (tgt := 228) hx hb dL_isDone_224 (by decide) ?_
                          exact wL_isDone_228 bx hA hK hl0 hE hX hbl hbA C r_1 1 h hP hD hS _ (lv_sub hl [] rfl)
                      · have h := br_F h c_31_10
                        by_cases c_31_11 : r_3 = 11
                        · have h := br_T h c_31_11
                          refine lv_tableIn (tgt := 208) hx hb dL_isDone_31 (by rw [c_31_11]; decide) (by rw [c_31_11]; decide) (off := 177) (by rw [c_31_11]; decide) (by decide) ?_
                          refine lv_aload_n hx hb dL_isDone_208 rfl (lv_at hl 2 rfl) ?_
                          refine lv_aload_n hx hb dL_isDone_209 rfl (lv_at hl 3 rfl) ?_
                          refine lv_iload hx hb dL_isDone_210 (lv_at hl 1 rfl) ?_
                          refine lv_aload_n hx hb dL_isDone_212 rfl (lv_at hl 4 rfl) ?_
                          refine lv_iload_n hx hb dL_isDone_213 rfl (lv_at hl 5 rfl) ?_
                          refine lv_iconst (v := 3) hx hb dL_isDone_214 (by decide) ?_
                          refine lv_iadd hx hb dL_isDone_215 ?_
                          refine lv_iconst (v := 2) hx hb dL_isDone_216 (by decide) ?_
                          obtain ⟨r_26, hr_26, h⟩ := bd_ex h
                          refine ro_i (va_runS (As := [.ref sb, .int (x3 + 3), .int 2]) (rest := [.int r_1, .ref (q 20), .ref (q 0)]) ⟨hx, hb, hml, hown, hts⟩ (kL_in l sb T (x3 + 3) 2 r_26 hr_26) (va_cwS 3 hts gL_isDone_L_in rfl rfl rfl (by decide +kernel) ⟨Nat.le_of_ble_eq_true rfl, Nat.le_of_ble_eq_true rfl⟩) (scS hX hbl hbA hS) rfl rfl hl.1 rfl (lv_room (Nat.le_of_ble_eq_true rfl)) dL_isDone_217 ⟨Nat.le_of_ble_eq_true rfl, Nat.le_of_ble_eq_true rfl⟩) ?_
                          refine lv_if_ne (tgt := 227) hx hb dL_isDone_220 (by decide) (fun c_220 => ?_) (fun c_220 => ?_)
                          · have h := br_F h c_220
                            refine lv_iconst (v := 0) hx hb dL_isDone_227 (by decide) ?_
                            exact wL_isDone_228 bx hA hK hl0 hE hX hbl hbA C r_1 0 h hP hD hS _ (lv_sub hl [] rfl)
                          · have h := br_T h c_220
                            refine lv_iconst (v := 1) hx hb dL_isDone_223 (by decide) ?_
                            refine lv_goto (tgt := 228) hx hb dL_isDone_224 (by decide) ?_
                            exact wL_isDone_228 bx hA hK hl0 hE hX hbl hbA C r_1 1 h hP hD hS _ (lv_sub hl [] rfl)
                        · have h := br_F h c_31_11
                          by_cases c_31_12 : r_3 = 12
                          · have h := br_T h c_31_12
                            refine lv_tableIn (tgt := 208) hx hb dL_isDone_31 (by rw [c_31_12]; decide) (by rw [c_31_12]; decide) (off := 177) (by rw [c_31_12]; decide) (by decide) ?_
                            refine lv_aload_n hx hb dL_isDone_208 rfl (lv_at hl 2 rfl) ?_
                            refine lv_aload_n hx hb dL_isDone_209 rfl (lv_at hl 3 rfl) ?_
                            refine lv_iload hx hb dL_isDone_210 (lv_at hl 1 rfl) ?_
                            refine lv_aload_n hx hb dL_isDone_212 rfl (lv_at hl 4 rfl) ?_
                            refine lv_iload_n hx hb dL_isDone_213 rfl (lv_at hl 5 rfl) ?_
                            refine lv_iconst (v := 3) hx hb dL_isDone_214 (by decide) ?_
                            refine lv_iadd hx hb dL_isDone_215 ?_
                            refine lv_iconst (v := 2) hx hb dL_isDone_216 (by decide) ?_
                            obtain ⟨r_27, hr_27, h⟩ := bd_ex h
                            refine ro_i (va_runS (As := [.ref sb, .int (x3 + 3), .int 2]) (rest := [.int r_1, .ref (q 20), .ref (q 0)]) ⟨hx, hb, hml, hown, hts⟩ (kL_in l sb T (x3 + 3) 2 r_27 hr_27) (va_cwS 3 hts gL_isDone_L_in rfl rfl rfl (by decide +kernel) ⟨Nat.le_of_ble_eq_true rfl, Nat.le_of_ble_eq_true rfl⟩) (scS hX hbl hbA hS) rfl rfl hl.1 rfl (lv_room (Nat.le_of_ble_eq_true rfl)) dL_isDone_217 ⟨Nat.le_of_ble_eq_true rfl, Nat.le_of_ble_eq_true rfl⟩) ?_
                            refine lv_if_ne (tgt := 227) hx hb dL_isDone_220 (by decide) (fun c_220 => ?_) (fun c_220 => ?_)
                            · have h := br_F h c_220
                              refine lv_iconst (v := 0) hx hb dL_isDone_227 (by decide) ?_
                              exact wL_isDone_228 bx hA hK hl0 hE hX hbl hbA C r_1 0 h hP hD hS _ (lv_sub hl [] rfl)
                            · have h := br_T h c_220
                              refine lv_iconst (v := 1) hx hb dL_isDone_223 (by decide) ?_
                              refine lv_goto (tgt := 228) hx hb dL_isDone_224 (by decide) ?_
                              exact wL_isDone_228 bx hA hK hl0 hE hX hbl hbA C r_1 1 h hP hD hS _ (lv_sub hl [] rfl)
                          · have h := br_F h c_31_12
                            by_cases c_31_13 : r_3 = 13
                            · have h := br_T h c_31_13
                              refine lv_tableIn (tgt := 232) hx hb dL_isDone_31 (by rw [c_31_13]; decide) (by rw [c_31_13]; decide) (off := 201) (by rw [c_31_13]; decide) (by decide) ?_
                              refine lv_aload_n hx hb dL_isDone_232 rfl (lv_at hl 2 rfl) ?_
                              refine lv_aload_n hx hb dL_isDone_233 rfl (lv_at hl 3 rfl) ?_
                              refine lv_iload hx hb dL_isDone_234 (lv_at hl 1 rfl) ?_
                              obtain ⟨u_28, hu_28, h⟩ := bd_ex h
                              refine wg_i (Wd := LW G q) (va_runS (As := [.ref (q 0), .ref (q 20), .int r_1]) (rest := []) ⟨hx, hb, hml, hown, hts⟩ (kL_isRetracted l hl0 G q C _ r_1 u_28 hu_28) (va_cwS 3 hts gL_isDone_L_isRetracted rfl rfl rfl (by decide +kernel) ⟨Nat.le_of_ble_eq_true rfl, Nat.le_of_ble_eq_true rfl⟩) (xS hP hD hS hK hA hE) rfl rfl hl.1 rfl (lv_room (Nat.le_of_ble_eq_true rfl)) dL_isDone_236 ⟨Nat.le_of_ble_eq_true rfl, Nat.le_of_ble_eq_true rfl⟩) hD hS hA (fun _ => rfl) (fun H locs hP hD hS => ?_)
                              obtain ⟨g239, h⟩ := gd_ex h
                              refine W.widen (k := 2) (n := 256) (Nat.le_of_ble_eq_true rfl) (Nat.le_of_ble_eq_true rfl) ?_
                              exact MYi.end (Wd := LW G q) hx hb hr hlocks hP hS dL_isDone_239 (okZ_n g239) h
                            · have h := br_F h c_31_13
                              by_cases c_31_14 : r_3 = 14
                              · have h := br_T h c_31_14
                                refine lv_tableIn (tgt := 232) hx hb dL_isDone_31 (by rw [c_31_14]; decide) (by rw [c_31_14]; decide) (off := 201) (by rw [c_31_14]; decide) (by decide) ?_
                                refine lv_aload_n hx hb dL_isDone_232 rfl (lv_at hl 2 rfl) ?_
                                refine lv_aload_n hx hb dL_isDone_233 rfl (lv_at hl 3 rfl) ?_
                                refine lv_iload hx hb dL_isDone_234 (lv_at hl 1 rfl) ?_
                                obtain ⟨u_29, hu_29, h⟩ := bd_ex h
                                refine wg_i (Wd := LW G q) (va_runS (As := [.ref (q 0), .ref (q 20), .int r_1]) (rest := []) ⟨hx, hb, hml, hown, hts⟩ (kL_isRetracted l hl0 G q C _ r_1 u_29 hu_29) (va_cwS 3 hts gL_isDone_L_isRetracted rfl rfl rfl (by decide +kernel) ⟨Nat.le_of_ble_eq_true rfl, Nat.le_of_ble_eq_true rfl⟩) (xS hP hD hS hK hA hE) rfl rfl hl.1 rfl (lv_room (Nat.le_of_ble_eq_true rfl)) dL_isDone_236 ⟨Nat.le_of_ble_eq_true rfl, Nat.le_of_ble_eq_true rfl⟩) hD hS hA (fun _ => rfl) (fun H locs hP hD hS => ?_)
                                obtain ⟨g239, h⟩ := gd_ex h
                                refine W.widen (k := 2) (n := 256) (Nat.le_of_ble_eq_true rfl) (Nat.le_of_ble_eq_true rfl) ?_
                                exact MYi.end (Wd := LW G q) hx hb hr hlocks hP hS dL_isDone_239 (okZ_n g239) h
                              · have h := br_F h c_31_14
                                refine lv_tableOut (tgt := 240) hx hb dL_isDone_31 (tw_15 c_31_0 c_31_1 c_31_2 c_31_3 c_31_4 c_31_5 c_31_6 c_31_7 c_31_8 c_31_9 c_31_10 c_31_11 c_31_12 c_31_13 c_31_14) (by decide) ?_
                                refine lv_aload_n hx hb dL_isDone_240 rfl (lv_at hl 3 rfl) ?_
                                refine lv_iconst (v := 3) hx hb dL_isDone_241 (by decide) ?_
                                obtain ⟨g242, h⟩ := gd_ex h
                                refine va_iald (D := G.1) hx hb hK.1 hP 20 0 rfl rfl g242 dL_isDone_242 ?_
                                refine lv_aload_n hx hb dL_isDone_243 rfl (lv_at hl 3 rfl) ?_
                                refine lv_iconst (v := 4) hx hb dL_isDone_244 (by decide) ?_
                                obtain ⟨g245, h⟩ := gd_ex h
                                refine va_iald (D := G.1) hx hb hK.1 hP 20 0 rfl rfl g245 dL_isDone_245 ?_
                                refine lv_ior hx hb dL_isDone_246 ?_
                                obtain ⟨r_30, hr_30, h⟩ := bd_ex h
                                refine ro_i (va_runS (As := [.int ((C.2 14 (3 : Int32).toNatClampNeg) ||| (C.2 14 (4 : Int32).toNatClampNeg))]) (rest := []) ⟨hx, hb, hml, hown, hts⟩ (kL_many l ((C.2 14 (3 : Int32).toNatClampNeg) ||| (C.2 14 (4 : Int32).toNatClampNeg)) r_30 hr_30) (va_cwS 1 hts gL_isDone_L_many rfl rfl rfl (by decide +kernel) ⟨Nat.le_of_ble_eq_true rfl, Nat.le_of_ble_eq_true rfl⟩) noS rfl rfl hl.1 rfl (lv_room (Nat.le_of_ble_eq_true rfl)) dL_isDone_247 ⟨Nat.le_of_ble_eq_true rfl, Nat.le_of_ble_eq_true rfl⟩) ?_
                                refine lv_istore (lv' := [(6, .int r_30), (5, .int r_2), (4, .int r_1), (0, .ref (q 0)), (1, .ref (q 20)), (2, .ref sb), (3, .int x3)]) hx hb dL_isDone_250 hl (by decide) rfl (fun ls hl => ?_)
                                refine lv_aload_n hx hb dL_isDone_252 rfl (lv_at hl 4 rfl) ?_
                                refine lv_iconst (v := 3) hx hb dL_isDone_253 (by decide) ?_
                                refine lv_iconst (v := 0) hx hb dL_isDone_254 (by decide) ?_
                                obtain ⟨g255, h⟩ := gd_ex h
                                refine va_iast (D := G.1) hx hb hK.1 hP hD hS 20 0 rfl rfl g255 dL_isDone_255 (fun H locs hP hD hS => ?_)
                                have hP : va_P G.1 vwCl (LW G q (sA C 14 (3 : Int32).toNatClampNeg 0)) H := hP
                                have hD : va_D A (LW G q (sA C 14 (3 : Int32).toNatClampNeg 0)) := hD
                                obtain ⟨C_31, eC_31, h⟩ := ltv_ex h
                                rw [← eC_31] at hP hD
                                refine lv_aload_n hx hb dL_isDone_256 rfl (lv_at hl 4 rfl) ?_
                                refine lv_iconst (v := 4) hx hb dL_isDone_257 (by decide) ?_
                                refine lv_iconst (v := 0) hx hb dL_isDone_258 (by decide) ?_
                                obtain ⟨g259, h⟩ := gd_ex h
                                refine va_iast (D := G.1) hx hb hK.1 hP hD hS 20 0 rfl rfl g259 dL_isDone_259 (fun H locs hP hD hS => ?_)
                                have hP : va_P G.1 vwCl (LW G q (sA C_31 14 (4 : Int32).toNatClampNeg 0)) H := hP
                                have hD : va_D A (LW G q (sA C_31 14 (4 : Int32).toNatClampNeg 0)) := hD
                                obtain ⟨C_32, eC_32, h⟩ := ltv_ex h
                                rw [← eC_32] at hP hD
                                refine lv_aload_n hx hb dL_isDone_260 rfl (lv_at hl 3 rfl) ?_
                                obtain ⟨u_33, hu_33, h⟩ := bd_ex h
                                have hP : va_P G.1 vwCl ([] ++ (CW G q C_32 ++ (NL G q C_32))) _ := hP
                                have hD : va_D A ([] ++ (CW G q C_32 ++ (NL G q C_32))) := hD
                                refine wf_i (Wd := CW G q) [] (NL G q C_32) (va_runV (As := []) (rest := []) ⟨hx, hb, hml, hown, hts⟩ (kX6_retractAll l G q C_32 _ u_33 hu_33) (cwV 0 hts gL_isDone_X6_retractAll rfl rfl rfl (by decide +kernel) ⟨Nat.le_of_ble_eq_true rfl, Nat.le_of_ble_eq_true rfl⟩) (wrV (fr_mid [] (NL G q C_32) hP) (fr_midD [] (NL G q C_32) hD) hK 5 0 rfl rfl) rfl rfl hl.1 rfl (lv_room (Nat.le_of_ble_eq_true rfl)) dL_isDone_261 ⟨Nat.le_of_ble_eq_true rfl, Nat.le_of_ble_eq_true rfl⟩) hP hD hS hA (fun _ => rfl) (fun H locs hP hD hS => ?_)
                                rw [← LW_mg] at hP hD
                                obtain ⟨C_34, eC_34, h⟩ := ltv_ex h
                                rw [← eC_34] at hP hD
                                refine lv_iload hx hb dL_isDone_264 (lv_at hl 0 rfl) ?_
                                refine lv_icmp_ne (tgt := 273) hx hb dL_isDone_266 (by decide) (fun c_266 => ?_) (fun c_266 => ?_)
                                · have h := br_F h c_266
                                  refine lv_iconst (v := 0) hx hb dL_isDone_273 (by decide) ?_
                                  refine W.widen (k := 2) (n := 256) (Nat.le_of_ble_eq_true rfl) (Nat.le_of_ble_eq_true rfl) ?_
                                  exact MYi.end (Wd := LW G q) hx hb hr hlocks hP hS dL_isDone_274 rfl h
                                · have h := br_T h c_266
                                  refine lv_iconst (v := 1) hx hb dL_isDone_269 (by decide) ?_
                                  refine lv_goto (tgt := 274) hx hb dL_isDone_270 (by decide) ?_
                                  refine W.widen (k := 2) (n := 256) (Nat.le_of_ble_eq_true rfl) (Nat.le_of_ble_eq_true rfl) ?_
                                  exact MYi.end (Wd := LW G q) hx hb hr hlocks hP hS dL_isDone_274 rfl h
