def rmL_isLifted : Room := { frames := 8, cells := 1, slots := 6, locals := 143 }

set_option maxHeartbeats 4000000 in
set_option maxRecDepth 100000 in
theorem wL_isLifted_38 {p : Program} {l : Launch} {e : Env} {s : State} {m : MethodId} {args : Array Value} {below : List Frame} {meth : Method} {c : Code} {G : GT} {q : Nat → Nat} {A : Nat → Prop} {out : Int32 × St} (bx : BX p RL wsL_isLifted cL_isLifted 5 (some .boolean) s m args meth c) (hA : ∀ q : Nat, s.heap.size ≤ q → A q) (hK : CK G s) (hl0 : l.stackTraces = false) (hE : XE A s) (C : St) (t0 : Int32) (t1 : Int32) (h : pL_isLifted_38 C t0 t1 = some out) {H : Heap} {locs : List Loc} (hP : va_P G.1 vwCl (LW G q C) H) (hD : va_D A (LW G q C)) (hS : va_S A s.heap H locs) (ls : Array Slot) (hl : lv_has ls 5 []) : W p l e rmL_isLifted s m args below meth c H locs 1 6 (MYi G (LW G q) A s args below out 1 6) (F0 m 38 ls [.int t1, .int t0]) := by
  obtain ⟨hx, hb, hr, hts, hown, hml, hlocks⟩ := id bx
  unfold pL_isLifted_38 at h
  refine lv_icmp_ne (tgt := 45) hx hb dL_isLifted_38 (by decide) (fun c_38 => ?_) (fun c_38 => ?_)
  · have h := br_F h c_38
    refine lv_iconst (v := 0) hx hb dL_isLifted_45 (by decide) ?_
    exact MYi.end (Wd := LW G q) hx hb hr hlocks hP hS dL_isLifted_46 rfl h
  · have h := br_T h c_38
    refine lv_iconst (v := 1) hx hb dL_isLifted_41 (by decide) ?_
    refine lv_goto (tgt := 46) hx hb dL_isLifted_42 (by decide) ?_
    exact MYi.end (Wd := LW G q) hx hb hr hlocks hP hS dL_isLifted_46 rfl h

set_option maxHeartbeats 4000000 in
set_option maxRecDepth 100000 in
theorem wL_isLifted_19 {p : Program} {l : Launch} {e : Env} {s : State} {m : MethodId} {args : Array Value} {below : List Frame} {meth : Method} {c : Code} {G : GT} {q : Nat → Nat} {A : Nat → Prop} {out : Int32 × St} (bx : BX p RL wsL_isLifted cL_isLifted 5 (some .boolean) s m args meth c) (hA : ∀ q : Nat, s.heap.size ≤ q → A q) (hK : CK G s) (hl0 : l.stackTraces = false) (hE : XE A s) (C : St) (x2 : Int32) (h : pL_isLifted_19 C x2 = some out) {H : Heap} {locs : List Loc} (hP : va_P G.1 vwCl (LW G q C) H) (hD : va_D A (LW G q C)) (hS : va_S A s.heap H locs) (ls : Array Slot) (hl : lv_has ls 5 [(0, .ref (q 0)), (1, .ref (q 20)), (2, .int x2)]) : W p l e rmL_isLifted s m args below meth c H locs 0 0 (MYi G (LW G q) A s args below out 1 6) (F0 m 19 ls []) := by
  obtain ⟨hx, hb, hr, hts, hown, hml, hlocks⟩ := id bx
  unfold pL_isLifted_19 at h
  refine lv_aload_n hx hb dL_isLifted_19 rfl (lv_at hl 0 rfl) ?_
  refine lv_iload_n hx hb dL_isLifted_20 rfl (lv_at hl 2 rfl) ?_
  obtain ⟨u_1, hu_1, h⟩ := bd_ex h
  have hP : va_P G.1 vwCl ([] ++ (CW G q C ++ (NL G q C))) _ := hP
  have hD : va_D A ([] ++ (CW G q C ++ (NL G q C))) := hD
  refine wf_i (Wd := CW G q) [] (NL G q C) (vx_runSW (As := [.ref (q 0), .int x2]) (rest := []) ⟨hx, hb, hml, hown, hts⟩ (kL_lift l hl0 G q C _ x2 u_1 hu_1) (vx_cwSW 2 hts gL_isLifted_L_lift rfl rfl rfl (by decide +kernel) ⟨Nat.le_of_ble_eq_true rfl, Nat.le_of_ble_eq_true rfl⟩) (xS (fr_mid [] (NL G q C) hP) (fr_midD [] (NL G q C) hD) hS hK hA hE) rfl rfl hl.1 rfl (lv_room (Nat.le_of_ble_eq_true rfl)) dL_isLifted_21 ⟨Nat.le_of_ble_eq_true rfl, Nat.le_of_ble_eq_true rfl⟩) hP hD hS hA (fun _ => rfl) (fun H locs hP hD hS => ?_)
  rw [← LW_mg] at hP hD
  obtain ⟨C_2, eC_2, h⟩ := ltv_ex h
  rw [← eC_2] at hP hD
  refine lv_iload_n hx hb dL_isLifted_24 rfl (lv_at hl 2 rfl) ?_
  refine lv_aload_n hx hb dL_isLifted_25 rfl (lv_at hl 1 rfl) ?_
  refine lv_iconst (v := 1) hx hb dL_isLifted_26 (by decide) ?_
  obtain ⟨g27, h⟩ := gd_ex h
  refine va_iald (D := G.1) hx hb hK.1 hP 20 0 rfl rfl g27 dL_isLifted_27 ?_
  refine lv_icmp_lt (tgt := 36) hx hb dL_isLifted_28 (by decide) (fun c_28 => ?_) (fun c_28 => ?_)
  · have h := br_T h c_28
    refine lv_ldc (own := RL) (v := -900002) hx hb hown (w_mem hts 2 rfl) dL_isLifted_36 ?_
    exact wL_isLifted_38 bx hA hK hl0 hE C_2 (u_1.1) (-900002) h hP hD hS _ (lv_sub hl [] rfl)
  · have h := br_F h c_28
    refine lv_ldc (own := RL) (v := -900001) hx hb hown (w_mem hts 1 rfl) dL_isLifted_31 ?_
    refine lv_goto (tgt := 38) hx hb dL_isLifted_33 (by decide) ?_
    exact wL_isLifted_38 bx hA hK hl0 hE C_2 (u_1.1) (-900001) h hP hD hS _ (lv_sub hl [] rfl)

set_option maxHeartbeats 4000000 in
set_option maxRecDepth 100000 in
theorem wL_isLifted_61_b {p : Program} {l : Launch} {e : Env} {s : State} {m : MethodId} {args : Array Value} {below : List Frame} {meth : Method} {c : Code} {G : GT} {q : Nat → Nat} {A : Nat → Prop} {out : Int32 × St} (bx : BX p RL wsL_isLifted cL_isLifted 5 (some .boolean) s m args meth c) (hA : ∀ q : Nat, s.heap.size ≤ q → A q) (hK : CK G s) (hl0 : l.stackTraces = false) (hE : XE A s) {k61 : St → Int32 → Int32 → Int32 → Option (Int32 × St)} (hk61 : ∀ (C : St) (x2 : Int32) (x3 : Int32) (x4 : Int32), k61 C x2 x3 x4 = some out → ∀ (H : Heap) (locs : List Loc) (hP : va_P G.1 vwCl (LW G q C) H) (hD : va_D A (LW G q C)) (hS : va_S A s.heap H locs), ∀ (ls : Array Slot), lv_has ls 5 [(0, .ref (q 0)), (1, .ref (q 20)), (2, .int x2), (3, .int x3), (4, .int x4)] → W p l e rmL_isLifted s m args below meth c H locs 0 0 (MYi G (LW G q) A s args below out 1 6) (F0 m 61 ls [])) (C : St) (x2 : Int32) (x3 : Int32) (x4 : Int32) (h : pL_isLifted_61_b k61 C x2 x3 x4 = some out) {H : Heap} {locs : List Loc} (hP : va_P G.1 vwCl (LW G q C) H) (hD : va_D A (LW G q C)) (hS : va_S A s.heap H locs) (ls : Array Slot) (hl : lv_has ls 5 [(0, .ref (q 0)), (1, .ref (q 20)), (2, .int x2), (3, .int x3), (4, .int x4)]) : W p l e rmL_isLifted s m args below meth c H locs 0 0 (MYi G (LW G q) A s args below out 1 6) (F0 m 61 ls []) := by
  obtain ⟨hx, hb, hr, hts, hown, hml, hlocks⟩ := id bx
  unfold pL_isLifted_61_b at h
  refine lv_iload hx hb dL_isLifted_61 (lv_at hl 4 rfl) ?_
  refine lv_aload_n hx hb dL_isLifted_63 rfl (lv_at hl 1 rfl) ?_
  refine lv_iconst (v := 1) hx hb dL_isLifted_64 (by decide) ?_
  obtain ⟨g65, h⟩ := gd_ex h
  refine va_iald (D := G.1) hx hb hK.1 hP 20 0 rfl rfl g65 dL_isLifted_65 ?_
  refine lv_icmp_ge (tgt := 89) hx hb dL_isLifted_66 (by decide) (fun c_66 => ?_) (fun c_66 => ?_)
  · have h := br_T h c_66
    refine lv_aload_n hx hb dL_isLifted_89 rfl (lv_at hl 0 rfl) ?_
    refine lv_iload_n hx hb dL_isLifted_90 rfl (lv_at hl 2 rfl) ?_
    obtain ⟨u_4, hu_4, h⟩ := bd_ex h
    have hP : va_P G.1 vwCl ([] ++ (CW G q C ++ (NL G q C))) _ := hP
    have hD : va_D A ([] ++ (CW G q C ++ (NL G q C))) := hD
    refine wf_i (Wd := CW G q) [] (NL G q C) (vx_runSW (As := [.ref (q 0), .int x2]) (rest := []) ⟨hx, hb, hml, hown, hts⟩ (kL_lift l hl0 G q C _ x2 u_4 hu_4) (vx_cwSW 2 hts gL_isLifted_L_lift rfl rfl rfl (by decide +kernel) ⟨Nat.le_of_ble_eq_true rfl, Nat.le_of_ble_eq_true rfl⟩) (xS (fr_mid [] (NL G q C) hP) (fr_midD [] (NL G q C) hD) hS hK hA hE) rfl rfl hl.1 rfl (lv_room (Nat.le_of_ble_eq_true rfl)) dL_isLifted_91 ⟨Nat.le_of_ble_eq_true rfl, Nat.le_of_ble_eq_true rfl⟩) hP hD hS hA (fun _ => rfl) (fun H locs hP hD hS => ?_)
    rw [← LW_mg] at hP hD
    obtain ⟨C_5, eC_5, h⟩ := ltv_ex h
    rw [← eC_5] at hP hD
    refine lv_iload_n hx hb dL_isLifted_94 rfl (lv_at hl 3 rfl) ?_
    refine lv_icmp_ne (tgt := 102) hx hb dL_isLifted_95 (by decide) (fun c_95 => ?_) (fun c_95 => ?_)
    · have h := br_F h c_95
      refine lv_iconst (v := 0) hx hb dL_isLifted_102 (by decide) ?_
      exact MYi.end (Wd := LW G q) hx hb hr hlocks hP hS dL_isLifted_103 rfl h
    · have h := br_T h c_95
      refine lv_iconst (v := 1) hx hb dL_isLifted_98 (by decide) ?_
      refine lv_goto (tgt := 103) hx hb dL_isLifted_99 (by decide) ?_
      exact MYi.end (Wd := LW G q) hx hb hr hlocks hP hS dL_isLifted_103 rfl h
  · have h := br_F h c_66
    refine lv_iload_n hx hb dL_isLifted_69 rfl (lv_at hl 3 rfl) ?_
    refine lv_iconst (v := 1) hx hb dL_isLifted_70 (by decide) ?_
    refine lv_aload_n hx hb dL_isLifted_71 rfl (lv_at hl 1 rfl) ?_
    refine lv_bipush (v := 114) hx hb dL_isLifted_72 (by decide) ?_
    refine lv_iconst (v := 5) hx hb dL_isLifted_74 (by decide) ?_
    refine lv_iload hx hb dL_isLifted_75 (lv_at hl 4 rfl) ?_
    refine lv_imul hx hb dL_isLifted_77 ?_
    refine lv_iadd hx hb dL_isLifted_78 ?_
    obtain ⟨g79, h⟩ := gd_ex h
    refine va_iald (D := G.1) hx hb hK.1 hP 20 0 rfl rfl g79 dL_isLifted_79 ?_
    refine lv_isub hx hb dL_isLifted_80 ?_
    refine lv_iadd hx hb dL_isLifted_81 ?_
    refine lv_topi (fun v_6 ev_6 => ?_)
    have h := ltv_at h v_6 ev_6
    refine lv_istore_n (lv' := [(3, .int v_6), (0, .ref (q 0)), (1, .ref (q 20)), (2, .int x2), (4, .int x4)]) hx hb dL_isLifted_82 rfl hl (by decide) rfl (fun ls hl => ?_)
    obtain ⟨v_7, ev_7, h⟩ := ltv_ex h
    refine lv_iinc (v := v_7) (lv' := [(4, .int v_7), (3, .int v_6), (0, .ref (q 0)), (1, .ref (q 20)), (2, .int x2)]) hx hb dL_isLifted_83 hl (k := 4) rfl (by rw [ev_7]; rfl) (by decide) rfl (fun ls hl => ?_)
    refine lv_goto (tgt := 61) hx hb dL_isLifted_86 (by decide) ?_
    exact hk61 C x2 v_6 v_7 h _ _ hP hD hS _ (lv_sub hl [2, 3, 4, 1, 0] rfl)

theorem wL_isLifted_61 {p : Program} {l : Launch} {e : Env} {s : State} {m : MethodId} {args : Array Value} {below : List Frame} {meth : Method} {c : Code} {G : GT} {q : Nat → Nat} {A : Nat → Prop} {out : Int32 × St} (bx : BX p RL wsL_isLifted cL_isLifted 5 (some .boolean) s m args meth c) (hA : ∀ q : Nat, s.heap.size ≤ q → A q) (hK : CK G s) (hl0 : l.stackTraces = false) (hE : XE A s) :
    ∀ (n : Nat) (C : St) (x2 : Int32) (x3 : Int32) (x4 : Int32), pL_isLifted_61 n C x2 x3 x4 = some out → ∀ (H : Heap) (locs : List Loc) (hP : va_P G.1 vwCl (LW G q C) H) (hD : va_D A (LW G q C)) (hS : va_S A s.heap H locs), ∀ (ls : Array Slot), lv_has ls 5 [(0, .ref (q 0)), (1, .ref (q 20)), (2, .int x2), (3, .int x3), (4, .int x4)] → W p l e rmL_isLifted s m args below meth c H locs 0 0 (MYi G (LW G q) A s args below out 1 6) (F0 m 61 ls []) := by
  intro n
  induction n with
  | zero => intro _ _ _ _ h; cases h
  | succ n ih => exact fun a0 a1 a2 a3 h _ _ hP hD hS ls hl => wL_isLifted_61_b bx hA hK hl0 hE ih a0 a1 a2 a3 h hP hD hS ls hl

set_option maxHeartbeats 4000000 in
set_option maxRecDepth 100000 in
theorem kL_isLifted (l : Launch) (hl0 : l.stackTraces = false) (G : GT) (q : Nat → Nat) (C : St) (sz : Nat) (x2 : Int32) (r : Int32 × St) (h : pL_isLifted C x2 = some r) : Met l yL_isLifted wsL_isLifted rmL_isLifted (va_Pc [.ref (q 0), .ref (q 20), .int x2] (xP G (LW G q C) sz)) (va_Qi (fun v u => (v, u) = r) (fun u t => va_P G.1 vwCl (LW G q u) t.heap) (va_A (LW G q C) sz)) 1 6 (va_A (LW G q C) sz) := by
  refine Met.ofW (cc := cL_isLifted) (maxL := 5) (ret := (some .boolean)) (by decide) rfl ?_
  intro p e s m args below meth c s₁ B hml hv
  obtain ⟨rfl, ⟨hsz, hP, hK, hD0⟩, hE⟩ := hv
  have bx := bx_of B hml
  subst hsz
  have hD := hD0.self (sz := s.heap.size)
  generalize hAe : va_A (LW G q C) s.heap.size = A at hD hE ⊢
  have hA : ∀ q : Nat, s.heap.size ≤ q → A q := fun q h => by rw [← hAe]; exact Or.inr h
  have hS : va_S A s.heap s.heap [] := va_S.rf
  obtain ⟨hx, hb, hr, hts, hown, hml, hlocks⟩ := id bx
  have hl := lv_entry ([.ref (q 0), .ref (q 20), .int x2]) (n := 5) (Nat.le_of_ble_eq_true rfl)
  rw [lg_entry_eq]
  generalize (lg_sl ([.ref (q 0), .ref (q 20), .int x2]) ++ List.replicate (5 - (lg_sl ([.ref (q 0), .ref (q 20), .int x2])).length) Slot.unset).toArray = ls at hl ⊢
  have hl : lv_has ls 5 [(0, .ref (q 0)), (1, .ref (q 20)), (2, .int x2)] := hl
  show W p l e rmL_isLifted s m _ below meth c s.heap [] 0 0 (MYi G (LW G q) A s _ below r 1 6) (F0 m 0 ls [])
  unfold pL_isLifted at h
  refine lv_iload_n hx hb dL_isLifted_0 rfl (lv_at hl 2 rfl) ?_
  refine lv_aload_n hx hb dL_isLifted_1 rfl (lv_at hl 1 rfl) ?_
  refine lv_iconst (v := 1) hx hb dL_isLifted_2 (by decide) ?_
  obtain ⟨g3, h⟩ := gd_ex h
  refine va_iald (D := G.1) hx hb hK.1 hP 20 0 rfl rfl g3 dL_isLifted_3 ?_
  refine lv_icmp_ge (tgt := 19) hx hb dL_isLifted_4 (by decide) (fun c_4 => ?_) (fun c_4 => ?_)
  · have h := br_T h c_4
    exact wL_isLifted_19 bx hA hK hl0 hE C x2 h hP hD hS _ (lv_sub hl [0, 1, 2] rfl)
  · have h := br_F h c_4
    refine lv_aload_n hx hb dL_isLifted_7 rfl (lv_at hl 1 rfl) ?_
    refine lv_bipush (v := 114) hx hb dL_isLifted_8 (by decide) ?_
    refine lv_iconst (v := 5) hx hb dL_isLifted_10 (by decide) ?_
    refine lv_iload_n hx hb dL_isLifted_11 rfl (lv_at hl 2 rfl) ?_
    refine lv_imul hx hb dL_isLifted_12 ?_
    refine lv_iadd hx hb dL_isLifted_13 ?_
    obtain ⟨g14, h⟩ := gd_ex h
    refine va_iald (D := G.1) hx hb hK.1 hP 20 0 rfl rfl g14 dL_isLifted_14 ?_
    refine lv_iconst (v := 1) hx hb dL_isLifted_15 (by decide) ?_
    refine lv_icmp_ne (tgt := 47) hx hb dL_isLifted_16 (by decide) (fun c_16 => ?_) (fun c_16 => ?_)
    · have h := br_F h c_16
      refine lv_aload_n hx hb dL_isLifted_47 rfl (lv_at hl 1 rfl) ?_
      refine lv_bipush (v := 114) hx hb dL_isLifted_48 (by decide) ?_
      refine lv_iconst (v := 5) hx hb dL_isLifted_50 (by decide) ?_
      refine lv_iload_n hx hb dL_isLifted_51 rfl (lv_at hl 2 rfl) ?_
      refine lv_imul hx hb dL_isLifted_52 ?_
      refine lv_iadd hx hb dL_isLifted_53 ?_
      refine lv_iconst (v := 1) hx hb dL_isLifted_54 (by decide) ?_
      obtain ⟨g55, h⟩ := gd_ex h
      refine va_iast (D := G.1) hx hb hK.1 hP hD hS 20 0 rfl rfl g55 dL_isLifted_55 (fun H locs hP hD hS => ?_)
      have hP : va_P G.1 vwCl (LW G q (sA C 14 (114 + (5 * x2)).toNatClampNeg 1)) H := hP
      have hD : va_D A (LW G q (sA C 14 (114 + (5 * x2)).toNatClampNeg 1)) := hD
      obtain ⟨C_3, eC_3, h⟩ := ltv_ex h
      rw [← eC_3] at hP hD
      refine lv_iconst (v := 0) hx hb dL_isLifted_56 (by decide) ?_
      refine lv_istore_n (lv' := [(3, .int 0), (0, .ref (q 0)), (1, .ref (q 20)), (2, .int x2)]) hx hb dL_isLifted_57 rfl hl (by decide) rfl (fun ls hl => ?_)
      refine lv_iconst (v := 0) hx hb dL_isLifted_58 (by decide) ?_
      refine lv_istore (lv' := [(4, .int 0), (3, .int 0), (0, .ref (q 0)), (1, .ref (q 20)), (2, .int x2)]) hx hb dL_isLifted_59 hl (by decide) rfl (fun ls hl => ?_)
      exact wL_isLifted_61 bx hA hK hl0 hE FU C_3 x2 0 0 h _ _ hP hD hS _ (lv_sub hl [2, 3, 4, 1, 0] rfl)
    · have h := br_T h c_16
      exact wL_isLifted_19 bx hA hK hl0 hE C x2 h hP hD hS _ (lv_sub hl [0, 1, 2] rfl)

def rmL_isDecided : Room := { frames := 19, cells := 2, slots := 256, locals := 478 }

set_option maxHeartbeats 4000000 in
set_option maxRecDepth 100000 in
theorem wL_isDecided_104 {p : Program} {l : Launch} {e : Env} {s : State} {m : MethodId} {args : Array Value} {below : List Frame} {meth : Method} {c : Code} {G : GT} {q : Nat → Nat} {A : Nat → Prop} {out : Int32 × St} (bx : BX p RL wsL_isDecided cL_isDecided 7 (some .boolean) s m args meth c) (hA : ∀ q : Nat, s.heap.size ≤ q → A q) (hK : CK G s) (hl0 : l.stackTraces = false) (hE : XE A s) (C : St) (x5 : Int32) (t0 : Int32) (h : pL_isDecided_104 C x5 t0 = some out) {H : Heap} {locs : List Loc} (hP : va_P G.1 vwCl (LX G q C) H) (hD : va_D A (LX G q C)) (hS : va_S A s.heap H locs) (ls : Array Slot) (hl : lv_has ls 7 [(0, .ref (q 0)), (5, .int x5)]) : W p l e rmL_isDecided s m args below meth c H locs 2 256 (MYi G (LW G q) A s args below out 2 256) (F0 m 104 ls [.int t0]) := by
  obtain ⟨hx, hb, hr, hts, hown, hml, hlocks⟩ := id bx
  unfold pL_isDecided_104 at h
  refine lv_istore (lv' := [(6, .int t0), (0, .ref (q 0)), (5, .int x5)]) hx hb dL_isDecided_104 hl (by decide) rfl (fun ls hl => ?_)
  refine lv_iload hx hb dL_isDecided_106 (lv_at hl 2 rfl) ?_
  refine lv_if_ge (tgt := 126) hx hb dL_isDecided_108 (by decide) (fun c_108 => ?_) (fun c_108 => ?_)
  · have h := br_T h c_108
    refine lv_iload hx hb dL_isDecided_126 (lv_at hl 0 rfl) ?_
    refine lv_aload_n hx hb dL_isDecided_128 rfl (lv_at hl 1 rfl) ?_
    obtain ⟨u_7, hu_7, h⟩ := bd_ex h
    have hP : va_P G.1 vwCl ([] ++ (CW G q C ++ (NL2 G q C))) _ := hP
    have hD : va_D A ([] ++ (CW G q C ++ (NL2 G q C))) := hD
    refine wf_i (Wd := CW G q) [] (NL2 G q C) (va_runV (As := []) (rest := [.int t0]) ⟨hx, hb, hml, hown, hts⟩ (kX6_unknown l G q C _ u_7 hu_7) (cwV 0 hts gL_isDecided_X6_unknown rfl rfl rfl (by decide +kernel) ⟨Nat.le_of_ble_eq_true rfl, Nat.le_of_ble_eq_true rfl⟩) (wrV (fr_mid [] (NL2 G q C) hP) (fr_midD [] (NL2 G q C) hD) hK 5 0 rfl rfl) rfl rfl hl.1 rfl (lv_room (Nat.le_of_ble_eq_true rfl)) dL_isDecided_129 ⟨Nat.le_of_ble_eq_true rfl, Nat.le_of_ble_eq_true rfl⟩) hP hD hS hA (fun _ => rfl) (fun H locs hP hD hS => ?_)
    rw [← LX_mg] at hP hD
    obtain ⟨C_8, eC_8, h⟩ := ltv_ex h
    rw [← eC_8] at hP hD
    refine lv_icmp_ne (tgt := 139) hx hb dL_isDecided_132 (by decide) (fun c_132 => ?_) (fun c_132 => ?_)
    · have h := br_F h c_132
      refine lv_iconst (v := 0) hx hb dL_isDecided_139 (by decide) ?_
      exact MYi.end (Wd := LW G q) hx hb hr hlocks (hP.sub (ws' := LW G q C_8) [0, 1, 2, 3, 4, 5, 6, 7, 8, 9, 10, 11, 12, 13, 14, 15, 16, 17, 18, 19, 20] rfl) hS dL_isDecided_140 rfl h
    · have h := br_T h c_132
      refine lv_iconst (v := 1) hx hb dL_isDecided_135 (by decide) ?_
      refine lv_goto (tgt := 140) hx hb dL_isDecided_136 (by decide) ?_
      exact MYi.end (Wd := LW G q) hx hb hr hlocks (hP.sub (ws' := LW G q C_8) [0, 1, 2, 3, 4, 5, 6, 7, 8, 9, 10, 11, 12, 13, 14, 15, 16, 17, 18, 19, 20] rfl) hS dL_isDecided_140 rfl h
  · have h := br_F h c_108
    refine lv_iload hx hb dL_isDecided_111 (lv_at hl 0 rfl) ?_
    refine lv_iload hx hb dL_isDecided_113 (lv_at hl 2 rfl) ?_
    refine lv_icmp_ne (tgt := 122) hx hb dL_isDecided_115 (by decide) (fun c_115 => ?_) (fun c_115 => ?_)
    · have h := br_F h c_115
      refine lv_iconst (v := 0) hx hb dL_isDecided_122 (by decide) ?_
      refine lv_goto (tgt := 140) hx hb dL_isDecided_123 (by decide) ?_
      exact MYi.end (Wd := LW G q) hx hb hr hlocks (hP.sub (ws' := LW G q C) [0, 1, 2, 3, 4, 5, 6, 7, 8, 9, 10, 11, 12, 13, 14, 15, 16, 17, 18, 19, 20] rfl) hS dL_isDecided_140 rfl h
    · have h := br_T h c_115
      refine lv_iconst (v := 1) hx hb dL_isDecided_118 (by decide) ?_
      refine lv_goto (tgt := 140) hx hb dL_isDecided_119 (by decide) ?_
      exact MYi.end (Wd := LW G q) hx hb hr hlocks (hP.sub (ws' := LW G q C) [0, 1, 2, 3, 4, 5, 6, 7, 8, 9, 10, 11, 12, 13, 14, 15, 16, 17, 18, 19, 20] rfl) hS dL_isDecided_140 rfl h

set_option maxHeartbeats 4000000 in
set_option maxRecDepth 100000 in
theorem wL_isDecided_87 {p : Program} {l : Launch} {e : Env} {s : State} {m : MethodId} {args : Array Value} {below : List Frame} {meth : Method} {c : Code} {G : GT} {q : Nat → Nat} {A : Nat → Prop} {out : Int32 × St} (bx : BX p RL wsL_isDecided cL_isDecided 7 (some .boolean) s m args meth c) (hA : ∀ q : Nat, s.heap.size ≤ q → A q) (hK : CK G s) (hl0 : l.stackTraces = false) (hE : XE A s) (C : St) (x2 : Int32) (x3 : Int32) (x5 : Int32) (h : pL_isDecided_87 C x2 x3 x5 = some out) {H : Heap} {locs : List Loc} (hP : va_P G.1 vwCl (LX G q C) H) (hD : va_D A (LX G q C)) (hS : va_S A s.heap H locs) (ls : Array Slot) (hl : lv_has ls 7 [(0, .ref (q 0)), (2, .int x2), (3, .int x3), (5, .int x5)]) : W p l e rmL_isDecided s m args below meth c H locs 1 250 (MYi G (LW G q) A s args below out 2 256) (F0 m 87 ls []) := by
  obtain ⟨hx, hb, hr, hts, hown, hml, hlocks⟩ := id bx
  unfold pL_isDecided_87 at h
  refine lv_iload_n hx hb dL_isDecided_87 rfl (lv_at hl 2 rfl) ?_
  refine lv_if_eq (tgt := 99) hx hb dL_isDecided_88 (by decide) (fun c_88 => ?_) (fun c_88 => ?_)
  · have h := br_T h c_88
    refine lv_aload_n hx hb dL_isDecided_99 rfl (lv_at hl 0 rfl) ?_
    refine lv_iload_n hx hb dL_isDecided_100 rfl (lv_at hl 1 rfl) ?_
    obtain ⟨u_5, hu_5, h⟩ := bd_ex h
    have hP : va_P G.1 vwCl ([] ++ (CW G q C ++ (NL2 G q C))) _ := hP
    have hD : va_D A ([] ++ (CW G q C ++ (NL2 G q C))) := hD
    refine wf_i (Wd := CW G q) [] (NL2 G q C) (vx_runSW (As := [.ref (q 0), .int x2]) (rest := []) ⟨hx, hb, hml, hown, hts⟩ (kL_refuse l hl0 G q C _ x2 u_5 hu_5) (vx_cwSW 2 hts gL_isDecided_L_refuse rfl rfl rfl (by decide +kernel) ⟨Nat.le_of_ble_eq_true rfl, Nat.le_of_ble_eq_true rfl⟩) (xS (fr_mid [] (NL2 G q C) hP) (fr_midD [] (NL2 G q C) hD) hS hK hA hE) rfl rfl hl.1 rfl (lv_room (Nat.le_of_ble_eq_true rfl)) dL_isDecided_101 ⟨Nat.le_of_ble_eq_true rfl, Nat.le_of_ble_eq_true rfl⟩) hP hD hS hA (fun _ => rfl) (fun H locs hP hD hS => ?_)
    rw [← LX_mg] at hP hD
    obtain ⟨C_6, eC_6, h⟩ := ltv_ex h
    rw [← eC_6] at hP hD
    exact wL_isDecided_104 bx hA hK hl0 hE C_6 x5 (u_5.1) h hP hD hS _ (lv_sub hl [0, 3] rfl)
  · have h := br_F h c_88
    refine lv_aload_n hx hb dL_isDecided_91 rfl (lv_at hl 0 rfl) ?_
    refine lv_iload_n hx hb dL_isDecided_92 rfl (lv_at hl 1 rfl) ?_
    obtain ⟨u_9, hu_9, h⟩ := bd_ex h
    have hP : va_P G.1 vwCl ([] ++ (CW G q C ++ (NL2 G q C))) _ := hP
    have hD : va_D A ([] ++ (CW G q C ++ (NL2 G q C))) := hD
    refine wf_i (Wd := CW G q) [] (NL2 G q C) (vx_runSW (As := [.ref (q 0), .int x2]) (rest := []) ⟨hx, hb, hml, hown, hts⟩ (kL_choose l hl0 G q C _ x2 u_9 hu_9) (vx_cwSW 2 hts gL_isDecided_L_choose rfl rfl rfl (by decide +kernel) ⟨Nat.le_of_ble_eq_true rfl, Nat.le_of_ble_eq_true rfl⟩) (xS (fr_mid [] (NL2 G q C) hP) (fr_midD [] (NL2 G q C) hD) hS hK hA hE) rfl rfl hl.1 rfl (lv_room (Nat.le_of_ble_eq_true rfl)) dL_isDecided_93 ⟨Nat.le_of_ble_eq_true rfl, Nat.le_of_ble_eq_true rfl⟩) hP hD hS hA (fun _ => rfl) (fun H locs hP hD hS => ?_)
    rw [← LX_mg] at hP hD
    obtain ⟨C_10, eC_10, h⟩ := ltv_ex h
    rw [← eC_10] at hP hD
    refine lv_goto (tgt := 104) hx hb dL_isDecided_96 (by decide) ?_
    exact wL_isDecided_104 bx hA hK hl0 hE C_10 x5 (u_9.1) h hP hD hS _ (lv_sub hl [0, 3] rfl)

set_option maxHeartbeats 4000000 in
set_option maxRecDepth 100000 in
theorem wL_isDecided_66 {p : Program} {l : Launch} {e : Env} {s : State} {m : MethodId} {args : Array Value} {below : List Frame} {meth : Method} {c : Code} {G : GT} {q : Nat → Nat} {A : Nat → Prop} {out : Int32 × St} (bx : BX p RL wsL_isDecided cL_isDecided 7 (some .boolean) s m args meth c) (hA : ∀ q : Nat, s.heap.size ≤ q → A q) (hK : CK G s) (hl0 : l.stackTraces = false) (hE : XE A s) (C : St) (x2 : Int32) (x3 : Int32) (t0 : Int32) (h : pL_isDecided_66 C x2 x3 t0 = some out) {H : Heap} {locs : List Loc} (hP : va_P G.1 vwCl (LX G q C) H) (hD : va_D A (LX G q C)) (hS : va_S A s.heap H locs) (ls : Array Slot) (hl : lv_has ls 7 [(0, .ref (q 0)), (1, .ref (q 20)), (2, .int x2), (3, .int x3), (4, .ref (q 21))]) : W p l e rmL_isDecided s m args below meth c H locs 1 250 (MYi G (LW G q) A s args below out 2 256) (F0 m 66 ls [.int t0]) := by
  obtain ⟨hx, hb, hr, hts, hown, hml, hlocks⟩ := id bx
  unfold pL_isDecided_66 at h
  refine lv_istore (lv' := [(5, .int t0), (0, .ref (q 0)), (1, .ref (q 20)), (2, .int x2), (3, .int x3), (4, .ref (q 21))]) hx hb dL_isDecided_66 hl (by decide) rfl (fun ls hl => ?_)
  refine lv_iload hx hb dL_isDecided_68 (lv_at hl 0 rfl) ?_
  refine lv_if_ne (tgt := 87) hx hb dL_isDecided_70 (by decide) (fun c_70 => ?_) (fun c_70 => ?_)
  · have h := br_F h c_70
    exact wL_isDecided_87 bx hA hK hl0 hE C x2 x3 t0 h hP hD hS _ (lv_sub hl [1, 3, 4, 0] rfl)
  · have h := br_T h c_70
    refine lv_aload_n hx hb dL_isDecided_73 rfl (lv_at hl 2 rfl) ?_
    refine lv_iconst (v := 3) hx hb dL_isDecided_74 (by decide) ?_
    refine lv_aload hx hb dL_isDecided_75 (lv_at hl 5 rfl) ?_
    refine lv_iconst (v := 3) hx hb dL_isDecided_77 (by decide) ?_
    obtain ⟨g78, h⟩ := gd_ex h
    refine va_iald (D := G.1) hx hb hK.1 hP 21 0 rfl rfl g78 dL_isDecided_78 ?_
    obtain ⟨g79, h⟩ := gd_ex h
    refine va_iast (D := G.1) hx hb hK.1 hP hD hS 20 0 rfl rfl g79 dL_isDecided_79 (fun H locs hP hD hS => ?_)
    have hP : va_P G.1 vwCl (LX G q (sA C 14 (3 : Int32).toNatClampNeg (C.2 15 (3 : Int32).toNatClampNeg))) H := hP
    have hD : va_D A (LX G q (sA C 14 (3 : Int32).toNatClampNeg (C.2 15 (3 : Int32).toNatClampNeg))) := hD
    obtain ⟨C_11, eC_11, h⟩ := ltv_ex h
    rw [← eC_11] at hP hD
    refine lv_aload_n hx hb dL_isDecided_80 rfl (lv_at hl 2 rfl) ?_
    refine lv_iconst (v := 4) hx hb dL_isDecided_81 (by decide) ?_
    refine lv_aload hx hb dL_isDecided_82 (lv_at hl 5 rfl) ?_
    refine lv_iconst (v := 4) hx hb dL_isDecided_84 (by decide) ?_
    obtain ⟨g85, h⟩ := gd_ex h
    refine va_iald (D := G.1) hx hb hK.1 hP 21 0 rfl rfl g85 dL_isDecided_85 ?_
    obtain ⟨g86, h⟩ := gd_ex h
    refine va_iast (D := G.1) hx hb hK.1 hP hD hS 20 0 rfl rfl g86 dL_isDecided_86 (fun H locs hP hD hS => ?_)
    have hP : va_P G.1 vwCl (LX G q (sA C_11 14 (4 : Int32).toNatClampNeg (C_11.2 15 (4 : Int32).toNatClampNeg))) H := hP
    have hD : va_D A (LX G q (sA C_11 14 (4 : Int32).toNatClampNeg (C_11.2 15 (4 : Int32).toNatClampNeg))) := hD
    obtain ⟨C_12, eC_12, h⟩ := ltv_ex h
    rw [← eC_12] at hP hD
    exact wL_isDecided_87 bx hA hK hl0 hE C_12 x2 x3 t0 h hP hD hS _ (lv_sub hl [1, 3, 4, 0] rfl)

set_option maxHeartbeats 4000000 in
set_option maxRecDepth 100000 in
theorem wL_isDecided_17 {p : Program} {l : Launch} {e : Env} {s : State} {m : MethodId} {args : Array Value} {below : List Frame} {meth : Method} {c : Code} {G : GT} {q : Nat → Nat} {A : Nat → Prop} {out : Int32 × St} (bx : BX p RL wsL_isDecided cL_isDecided 7 (some .boolean) s m args meth c) (hA : ∀ q : Nat, s.heap.size ≤ q → A q) (hK : CK G s) (hl0 : l.stackTraces = false) (hE : XE A s) (C : St) (x2 : Int32) (x3 : Int32) (t1 : Int32) (h : pL_isDecided_17 C x2 x3 t1 = some out) {H : Heap} {locs : List Loc} (hP : va_P G.1 vwCl (LX G q C) H) (hD : va_D A (LX G q C)) (hS : va_S A s.heap H locs) (ls : Array Slot) (hl : lv_has ls 7 [(0, .ref (q 0)), (1, .ref (q 20)), (2, .int x2), (3, .int x3), (4, .ref (q 21))]) : W p l e rmL_isDecided s m args below meth c H locs 1 250 (MYi G (LW G q) A s args below out 2 256) (F0 m 17 ls [.int t1, .ref (q 21)]) := by
  obtain ⟨hx, hb, hr, hts, hown, hml, hlocks⟩ := id bx
  unfold pL_isDecided_17 at h
  refine lv_dup2_11 hx hb dL_isDecided_17 rfl rfl ?_
  obtain ⟨g18, h⟩ := gd_ex h
  refine va_iald (D := G.1) hx hb hK.1 hP 21 0 rfl rfl g18 dL_isDecided_18 ?_
  refine lv_iconst (v := 1) hx hb dL_isDecided_19 (by decide) ?_
  refine lv_iload_n hx hb dL_isDecided_20 rfl (lv_at hl 2 rfl) ?_
  refine lv_ishl hx hb dL_isDecided_21 ?_
  refine lv_ior hx hb dL_isDecided_22 ?_
  obtain ⟨g23, h⟩ := gd_ex h
  refine va_iast (D := G.1) hx hb hK.1 hP hD hS 21 0 rfl rfl g23 dL_isDecided_23 (fun H locs hP hD hS => ?_)
  have hP : va_P G.1 vwCl (LX G q (sA C 15 t1.toNatClampNeg ((C.2 15 t1.toNatClampNeg) ||| ((1 : Int32) <<< (x2 &&& 31))))) H := hP
  have hD : va_D A (LX G q (sA C 15 t1.toNatClampNeg ((C.2 15 t1.toNatClampNeg) ||| ((1 : Int32) <<< (x2 &&& 31))))) := hD
  obtain ⟨C_2, eC_2, h⟩ := ltv_ex h
  rw [← eC_2] at hP hD
  refine lv_iload_n hx hb dL_isDecided_24 rfl (lv_at hl 2 rfl) ?_
  refine lv_if_ne (tgt := 33) hx hb dL_isDecided_25 (by decide) (fun c_25 => ?_) (fun c_25 => ?_)
  · have h := br_F h c_25
    refine lv_aload_n hx hb dL_isDecided_33 rfl (lv_at hl 1 rfl) ?_
    refine lv_iconst (v := 3) hx hb dL_isDecided_34 (by decide) ?_
    obtain ⟨g35, h⟩ := gd_ex h
    refine va_iald (D := G.1) hx hb hK.1 hP 20 0 rfl rfl g35 dL_isDecided_35 ?_
    refine lv_aload_n hx hb dL_isDecided_36 rfl (lv_at hl 1 rfl) ?_
    refine lv_iconst (v := 4) hx hb dL_isDecided_37 (by decide) ?_
    obtain ⟨g38, h⟩ := gd_ex h
    refine va_iald (D := G.1) hx hb hK.1 hP 20 0 rfl rfl g38 dL_isDecided_38 ?_
    refine lv_ior hx hb dL_isDecided_39 ?_
    refine lv_iload_n hx hb dL_isDecided_40 rfl (lv_at hl 2 rfl) ?_
    obtain ⟨r_3, hr_3, h⟩ := bd_ex h
    refine ro_i (va_runS (As := [.int ((C_2.2 14 (3 : Int32).toNatClampNeg) ||| (C_2.2 14 (4 : Int32).toNatClampNeg)), .int x2]) (rest := []) ⟨hx, hb, hml, hown, hts⟩ (kL_isIn l ((C_2.2 14 (3 : Int32).toNatClampNeg) ||| (C_2.2 14 (4 : Int32).toNatClampNeg)) x2 r_3 hr_3) (va_cwS 2 hts gL_isDecided_L_isIn rfl rfl rfl (by decide +kernel) ⟨Nat.le_of_ble_eq_true rfl, Nat.le_of_ble_eq_true rfl⟩) noS rfl rfl hl.1 rfl (lv_room (Nat.le_of_ble_eq_true rfl)) dL_isDecided_41 ⟨Nat.le_of_ble_eq_true rfl, Nat.le_of_ble_eq_true rfl⟩) ?_
    refine lv_if_eq (tgt := 52) hx hb dL_isDecided_44 (by decide) (fun c_44 => ?_) (fun c_44 => ?_)
    · have h := br_T h c_44
      refine lv_aload hx hb dL_isDecided_52 (lv_at hl 4 rfl) ?_
      obtain ⟨r_4, hr_4, h⟩ := bd_ex h
      refine ro_i (va_runS (As := [.ref (q 21)]) (rest := []) ⟨hx, hb, hml, hown, hts⟩ (kL_isPossible l G (fun _ => q 21) (nx C_2) r_4 hr_4) (va_cwS 1 hts gL_isDecided_L_isPossible rfl rfl rfl (by decide +kernel) ⟨Nat.le_of_ble_eq_true rfl, Nat.le_of_ble_eq_true rfl⟩) (roS (hP.sub (ws' := NW G (fun _ => q 21) (nx C_2)) [21] rfl) hK) rfl rfl hl.1 rfl (lv_room (Nat.le_of_ble_eq_true rfl)) dL_isDecided_54 ⟨Nat.le_of_ble_eq_true rfl, Nat.le_of_ble_eq_true rfl⟩) ?_
      refine lv_if_eq (tgt := 64) hx hb dL_isDecided_57 (by decide) (fun c_57 => ?_) (fun c_57 => ?_)
      · have h := br_T h c_57
        refine lv_ldc (own := RL) (v := -900004) hx hb hown (w_mem hts 3 rfl) dL_isDecided_64 ?_
        exact wL_isDecided_66 bx hA hK hl0 hE C_2 x2 x3 (-900004) h hP hD hS _ (lv_sub hl [0, 1, 2, 3, 4] rfl)
      · have h := br_F h c_57
        refine lv_iconst (v := 0) hx hb dL_isDecided_60 (by decide) ?_
        refine lv_goto (tgt := 66) hx hb dL_isDecided_61 (by decide) ?_
        exact wL_isDecided_66 bx hA hK hl0 hE C_2 x2 x3 0 h hP hD hS _ (lv_sub hl [0, 1, 2, 3, 4] rfl)
    · have h := br_F h c_44
      refine lv_ldc (own := RL) (v := -900003) hx hb hown (w_mem hts 2 rfl) dL_isDecided_47 ?_
      refine lv_goto (tgt := 66) hx hb dL_isDecided_49 (by decide) ?_
      exact wL_isDecided_66 bx hA hK hl0 hE C_2 x2 x3 (-900003) h hP hD hS _ (lv_sub hl [0, 1, 2, 3, 4] rfl)
  · have h := br_T h c_25
    refine lv_ldc (own := RL) (v := -900002) hx hb hown (w_mem hts 1 rfl) dL_isDecided_28 ?_
    refine lv_goto (tgt := 66) hx hb dL_isDecided_30 (by decide) ?_
    exact wL_isDecided_66 bx hA hK hl0 hE C_2 x2 x3 (-900002) h hP hD hS _ (lv_sub hl [0, 1, 2, 3, 4] rfl)

set_option maxHeartbeats 4000000 in
set_option maxRecDepth 100000 in
theorem kL_isDecided (l : Launch) (hl0 : l.stackTraces = false) (G : GT) (q : Nat → Nat) (C : St) (sz : Nat) (x2 : Int32) (x3 : Int32) (r : Int32 × St) (h : pL_isDecided C x2 x3 = some r) : Met l yL_isDecided wsL_isDecided rmL_isDecided (va_Pc [.ref (q 0), .ref (q 20), .int x2, .int x3] (xP G (LW G q C) sz)) (va_Qi (fun v u => (v, u) = r) (fun u t => va_P G.1 vwCl (LW G q u) t.heap) (va_A (LW G q C) sz)) 2 256 (va_A (LW G q C) sz) := by
  refine Met.ofW (cc := cL_isDecided) (maxL := 7) (ret := (some .boolean)) (by decide) rfl ?_
  intro p e s m args below meth c s₁ B hml hv
  obtain ⟨rfl, ⟨hsz, hP, hK, hD0⟩, hE⟩ := hv
  have bx := bx_of B hml
  subst hsz
  have hD := hD0.self (sz := s.heap.size)
  generalize hAe : va_A (LW G q C) s.heap.size = A at hD hE ⊢
  have hA : ∀ q : Nat, s.heap.size ≤ q → A q := fun q h => by rw [← hAe]; exact Or.inr h
  have hS : va_S A s.heap s.heap [] := va_S.rf
  obtain ⟨hx, hb, hr, hts, hown, hml, hlocks⟩ := id bx
  have hl := lv_entry ([.ref (q 0), .ref (q 20), .int x2, .int x3]) (n := 7) (Nat.le_of_ble_eq_true rfl)
  rw [lg_entry_eq]
  generalize (lg_sl ([.ref (q 0), .ref (q 20), .int x2, .int x3]) ++ List.replicate (7 - (lg_sl ([.ref (q 0), .ref (q 20), .int x2, .int x3])).length) Slot.unset).toArray = ls at hl ⊢
  have hl : lv_has ls 7 [(0, .ref (q 0)), (1, .ref (q 20)), (2, .int x2), (3, .int x3)] := hl
  show W p l e rmL_isDecided s m _ below meth c s.heap [] 0 0 (MYi G (LW G q) A s _ below r 2 256) (F0 m 0 ls [])
  unfold pL_isDecided at h
  refine lv_aload_n hx hb dL_isDecided_0 rfl (lv_at hl 1 rfl) ?_
  refine cp_call (va_runS (As := [.ref (q 20)]) (rest := []) ⟨hx, hb, hml, hown, hts⟩ (kL_copy l G q C _) (va_cwS 1 hts gL_isDecided_L_copy rfl rfl rfl (by decide +kernel) ⟨Nat.le_of_ble_eq_true rfl, Nat.le_of_ble_eq_true rfl⟩) (wrS (hP.sub (ws' := NW G q C) [20] rfl) (hD.sub (ws' := NW G q C) [20] (by decide) rfl) hK) rfl rfl hl.1 rfl (lv_room (Nat.le_of_ble_eq_true rfl)) dL_isDecided_1 ⟨Nat.le_of_ble_eq_true rfl, Nat.le_of_ble_eq_true rfl⟩) hP hD hS hA (fun q1 H locs hq hP hD hS => ?_)
  have hW0 : LW G q1 = LW G q := LW_q hq
  rw [← hW0]
  rw [← hq 0 (by decide), ← hq 20 (by decide)] at hl
  obtain ⟨C_1, eC_1, h⟩ := ltv_ex h
  rw [← eC_1] at hP hD
  refine lv_astore (lv' := [(4, .ref (q1 21)), (0, .ref (q1 0)), (1, .ref (q1 20)), (2, .int x2), (3, .int x3)]) hx hb dL_isDecided_4 hl (by decide) rfl (fun ls hl => ?_)
  refine lv_aload hx hb dL_isDecided_6 (lv_at hl 0 rfl) ?_
  refine lv_iload_n hx hb dL_isDecided_8 rfl (lv_at hl 4 rfl) ?_
  refine lv_if_eq (tgt := 16) hx hb dL_isDecided_9 (by decide) (fun c_9 => ?_) (fun c_9 => ?_)
  · have h := br_T h c_9
    refine lv_iconst (v := 4) hx hb dL_isDecided_16 (by decide) ?_
    exact wL_isDecided_17 bx hA hK hl0 hE C_1 x2 x3 4 h hP hD hS _ (lv_sub hl [1, 2, 3, 4, 0] rfl)
  · have h := br_F h c_9
    refine lv_iconst (v := 3) hx hb dL_isDecided_12 (by decide) ?_
    refine lv_goto (tgt := 17) hx hb dL_isDecided_13 (by decide) ?_
    exact wL_isDecided_17 bx hA hK hl0 hE C_1 x2 x3 3 h hP hD hS _ (lv_sub hl [1, 2, 3, 4, 0] rfl)
