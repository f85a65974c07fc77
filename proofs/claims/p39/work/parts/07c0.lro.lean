def rmL_copy : Room := { frames := 1, cells := 1, slots := 250, locals := 60 }
def cpf (n : Nat → Int32) (i : Nat) : Nat → Int32 := fun j => if j < i then n j else 0
theorem cpf_0 (n : Nat → Int32) : cpf n 0 = zr := by funext j; unfold cpf; rw [if_neg (Nat.not_lt_zero j)]; rfl
theorem cpf_s (n : Nat → Int32) (i : Nat) : upd (cpf n i) i (n i) = cpf n (i + 1) := by
  funext j
  unfold upd cpf
  by_cases h : j = i
  · rw [if_pos h, if_pos (by omega), h]
  · rw [if_neg h]
    by_cases g : j < i
    · rw [if_pos g, if_pos (by omega)]
    · rw [if_neg g, if_neg (by omega)]
theorem arr_ext (cI : ClassId) (N : Nat) {f g : Nat → Int32} (h : ∀ j, j < N → f j = g j) : vp_cell cI (N, .inl f) = vp_cell cI (N, .inl g) := by
  rw [vp_cell_i, vp_cell_i]
  exact congrArg (fun a => ({ cls := cI, slots := a, vm := .none } : Cell)) (congrArg (Array.ofFn (n := N)) (funext fun j => congrArg Value.int (h j.val j.isLt)))
theorem cp_last {G : GT} {q : Nat → Nat} {C : St} {r : Nat} {H : Heap} (hP : va_P G.1 vwCl (NW G q C ++ [cpE G r (cpf (C.2 14) 250)]) H) : va_P G.1 vwCl (NW G q C ++ [cpE G r (C.2 14)]) H := by
  intro k w hw
  match k, hw with
  | 0, hw => cases hw; exact hP 0 _ rfl
  | 1, hw =>
    cases hw
    have h1 : H[r]? = some (vp_cell (G.2 0) (250, .inl (cpf (C.2 14) 250))) := hP 1 _ rfl
    show H[r]? = some (vp_cell (G.2 0) (250, .inl (C.2 14)))
    rw [h1, arr_ext (G.2 0) 250 (f := cpf (C.2 14) 250) (g := C.2 14) (fun j hj => by unfold cpf; rw [if_pos hj])]
  | k + 2, hw => cases hw
set_option maxHeartbeats 4000000 in
set_option maxRecDepth 100000 in
theorem copy_loop {p : Program} {l : Launch} {e : Env} {s : State} {m : MethodId} {args : Array Value} {below : List Frame} {meth : Method} {c : Code} {G : GT} {q : Nat → Nat} {A : Nat → Prop} {C : St} {r : Nat} (bx : BX p RL wsL_copy cL_copy 3 (some (.array .int)) s m args meth c) (hK : CK G s) :
    ∀ (d i : Nat), i + d = 250 → ∀ (H : Heap) (locs : List Loc) (ls : Array Slot), va_P G.1 vwCl (NW G q C ++ [cpE G r (cpf (C.2 14) i)]) H → va_D A (NW G q C ++ [cpE G r (cpf (C.2 14) i)]) → va_S A s.heap H locs → lv_has ls 3 [(2, .int (nI i)), (1, .ref r), (0, .ref (q 20))] →
      W p l e rmL_copy s m args below meth c H locs 1 250 (MQ below (va_Qr (fun _ : Unit => True) (fun _ r t => va_P G.1 vwCl (NW G q C ++ [cpE G r (C.2 14)]) t.heap ∧ va_D A (NW G q C ++ [cpE G r (C.2 14)])) A) args s 1 250 A) (F0 m 7 ls []) := by
  obtain ⟨hx, hb, hr, hts, hown, hml, hlocks⟩ := id bx
  intro d
  induction d with
  | zero =>
    intro i hi H locs ls hP hD hS hl
    have hi : i = 250 := by omega
    subst hi
    refine lv_iload_n hx hb dL_copy_7 rfl (lv_at hl 0 rfl) ?_
    refine lv_aload_n hx hb dL_copy_8 rfl (lv_at hl 2 rfl) ?_
    refine va_alen (D := G.1) hx hb hK.1 hP 0 0 rfl rfl (v := 250) rfl dL_copy_9 ?_
    refine lv_icmp_ge (tgt := 25) hx hb dL_copy_10 (by decide) (fun _ => ?_) (fun c_ => absurd (show (250 : Int32) ≤ nI 250 by decide) c_)
    refine lv_aload_n hx hb dL_copy_25 rfl (lv_at hl 1 rfl) ?_
    have hP := cp_last hP
    have hD : va_D A (NW G q C ++ [cpE G r (C.2 14)]) := hD.same rfl
    exact W.aret hx hb hr (Or.inr ⟨_, rfl⟩) (Or.inr ⟨_, rfl⟩) (fun t ht _ => ⟨⟨(), r, rfl, trivial, by rw [ht]; exact hP, hD⟩, hS.F ht⟩) hS.2.2 dL_copy_26 hlocks
  | succ d ih =>
    intro i hi H locs ls hP hD hS hl
    refine lv_iload_n hx hb dL_copy_7 rfl (lv_at hl 0 rfl) ?_
    refine lv_aload_n hx hb dL_copy_8 rfl (lv_at hl 2 rfl) ?_
    refine va_alen (D := G.1) hx hb hK.1 hP 0 0 rfl rfl (v := 250) rfl dL_copy_9 ?_
    refine lv_icmp_ge (tgt := 25) hx hb dL_copy_10 (by decide) (fun c_ => absurd c_ (nleN (a := 250) (by decide) (by omega) (by omega))) (fun _ => ?_)
    refine lv_aload_n hx hb dL_copy_13 rfl (lv_at hl 1 rfl) ?_
    refine lv_iload_n hx hb dL_copy_14 rfl (lv_at hl 0 rfl) ?_
    refine lv_aload_n hx hb dL_copy_15 rfl (lv_at hl 2 rfl) ?_
    refine lv_iload_n hx hb dL_copy_16 rfl (lv_at hl 0 rfl) ?_
    refine va_iald (D := G.1) hx hb hK.1 hP 0 0 rfl rfl (nI_in (by omega) (by decide)) dL_copy_17 ?_
    refine va_iast (D := G.1) hx hb hK.1 hP hD hS 1 0 rfl rfl (nI_in (by omega) (by decide)) dL_copy_18 (fun H locs hP hD hS => ?_)
    rw [nI_clp (show i < 2 ^ 31 by omega), cpf_s] at hP hD
    have hP : va_P G.1 vwCl (NW G q C ++ [cpE G r (cpf (C.2 14) (i + 1))]) H := hP
    have hD : va_D A (NW G q C ++ [cpE G r (cpf (C.2 14) (i + 1))]) := hD
    refine lv_iinc (v := nI (i + 1)) (lv' := [(2, .int (nI (i + 1))), (1, .ref r), (0, .ref (q 20))]) hx hb dL_copy_19 hl (k := 0) rfl (nI_add i 1) (by decide) rfl (fun ls hl => ?_)
    refine lv_goto (tgt := 7) hx hb dL_copy_22 (by decide) ?_
    exact ih (i + 1) (by omega) H locs ls hP hD hS hl
set_option maxHeartbeats 4000000 in
set_option maxRecDepth 100000 in
theorem kL_copy (l : Launch) (G : GT) (q : Nat → Nat) (C : St) (sz : Nat) : Met l yL_copy wsL_copy rmL_copy (va_Pc [.ref (q 20)] (wrP G (NW G q C) sz)) (va_Qr (fun _ : Unit => True) (fun _ r t => va_P G.1 vwCl (NW G q C ++ [cpE G r (C.2 14)]) t.heap ∧ va_D (va_A (NW G q C) sz) (NW G q C ++ [cpE G r (C.2 14)])) (va_A (NW G q C) sz)) 1 250 (va_A (NW G q C) sz) := by
  refine Met.ofW (cc := cL_copy) (maxL := 3) (ret := (some (.array .int))) (by decide) rfl ?_
  intro p e s m args below meth c s₁ B hml hv
  obtain ⟨rfl, hsz, hP, hK, hD0⟩ := hv
  have bx := bx_of B hml
  subst hsz
  have hD := hD0.self (sz := s.heap.size)
  generalize hAe : va_A (NW G q C) s.heap.size = A at hD ⊢
  have hA : ∀ q : Nat, s.heap.size ≤ q → A q := fun q h => by rw [← hAe]; exact Or.inr h
  have hS : va_S A s.heap s.heap [] := va_S.rf
  obtain ⟨hx, hb, hr, hts, hown, hml, hlocks⟩ := id bx
  have hl := lv_entry ([.ref (q 20)]) (n := 3) (Nat.le_of_ble_eq_true rfl)
  rw [lg_entry_eq]
  generalize (lg_sl ([.ref (q 20)]) ++ List.replicate (3 - (lg_sl ([.ref (q 20)])).length) Slot.unset).toArray = ls at hl ⊢
  have hl : lv_has ls 3 [(0, .ref (q 20))] := hl
  show W p l e rmL_copy s m _ below meth c s.heap [] 0 0 _ (F0 m 0 ls [])
  refine lv_aload_n hx hb dL_copy_0 rfl (lv_at hl 0 rfl) ?_
  refine va_alen (D := G.1) hx hb hK.1 hP 0 0 rfl rfl (v := 250) rfl dL_copy_1 ?_
  refine va_newa (D := G.1) (atype := .int) hx hb (w_mem hts 1 rfl) rfl hK.1 hP hD hS hA (N' := 250) (a0 := (250, .inl zr)) (fun _ => rfl) (by decide) (by decide) (Nat.le_of_ble_eq_true rfl) (Nat.le_of_ble_eq_true rfl) (Nat.le_of_ble_eq_true rfl) dL_copy_2 (fun r0 cA H hK1 hP hD hS => ?_)
  have e9 := tyI hK1
  subst e9
  clear hK1
  have hP : va_P G.1 vwCl (NW G q C ++ [cpE G r0 zr]) H := hP
  have hD : va_D A (NW G q C ++ [cpE G r0 zr]) := hD
  rw [← cpf_0 (C.2 14)] at hP hD
  refine lv_astore_n (lv' := [(1, .ref r0), (0, .ref (q 20))]) hx hb dL_copy_4 rfl hl (by decide) rfl (fun ls hl => ?_)
  refine lv_iconst (v := 0) hx hb dL_copy_5 (by decide) ?_
  refine lv_istore_n (lv' := [(2, .int 0), (1, .ref r0), (0, .ref (q 20))]) hx hb dL_copy_6 rfl hl (by decide) rfl (fun ls hl => ?_)
  refine W.widen (k := 1) (n := 250) (Nat.le_of_ble_eq_true rfl) (Nat.le_of_ble_eq_true rfl) ?_
  exact copy_loop bx hK 250 0 rfl H _ ls hP hD hS hl

def rmL_cell : Room := { frames := 0, cells := 0, slots := 0, locals := 0 }

set_option maxHeartbeats 4000000 in
set_option maxRecDepth 100000 in
theorem wL_cell_15 {p : Program} {l : Launch} {e : Env} {s : State} {m : MethodId} {args : Array Value} {below : List Frame} {meth : Method} {c : Code} {T : SC} {sb : Nat} {out : Int32} (bx : BX p RL wsL_cell cL_cell 3 (some .int) s m args meth c) (hX : va_X sb T.1 T.2 s s.heap) (hbl : sb < s.heap.size) (x1 : Int32) (t0 : Int32) (t1 : Int32) (h : pL_cell_15 T x1 t0 t1 = some out) (ls : Array Slot) (hl : lv_has ls 3 [(1, .int x1)]) : GoI p l e rmL_cell s m args below meth c out (F0 m 15 ls [.int t1, .int t0]) := by
  obtain ⟨hx, hb, hr, hts, hown, hml, hlocks⟩ := id bx
  unfold pL_cell_15 at h
  refine lv_sipush (v := 1009) hx hb dL_cell_15 (by decide) ?_
  refine lv_iload_n hx hb dL_cell_18 rfl (lv_at hl 0 rfl) ?_
  refine lv_imul hx hb dL_cell_19 ?_
  refine lv_iadd hx hb dL_cell_20 ?_
  refine lv_imul hx hb dL_cell_21 ?_
  refine lv_sipush (v := 12345) hx hb dL_cell_22 (by decide) ?_
  refine lv_iadd hx hb dL_cell_25 ?_
  refine lv_topi (fun v_1 ev_1 => ?_)
  have h := ltv_at h v_1 ev_1
  refine lv_istore_n (lv' := [(2, .int v_1), (1, .int x1)]) hx hb dL_cell_26 rfl hl (by decide) rfl (fun ls hl => ?_)
  refine lv_iload_n hx hb dL_cell_27 rfl (lv_at hl 0 rfl) ?_
  refine lv_iload_n hx hb dL_cell_28 rfl (lv_at hl 0 rfl) ?_
  refine lv_bipush (v := 13) hx hb dL_cell_29 (by decide) ?_
  refine lv_iushr (v := (v_1.toUInt32 >>> ((13 : Int32).toUInt32 &&& Int32.toUInt32 31)).toInt32) hx hb dL_cell_31 rfl ?_
  refine lv_ixor hx hb dL_cell_32 ?_
  refine lv_ldc (own := RL) (v := 1103515245) hx hb hown (w_mem hts 2 rfl) dL_cell_33 ?_
  refine lv_imul hx hb dL_cell_35 ?_
  refine lv_topi (fun v_2 ev_2 => ?_)
  have h := ltv_at h v_2 ev_2
  refine lv_istore_n (lv' := [(2, .int v_2), (1, .int x1)]) hx hb dL_cell_36 rfl hl (by decide) rfl (fun ls hl => ?_)
  refine lv_iload_n hx hb dL_cell_37 rfl (lv_at hl 0 rfl) ?_
  refine lv_iload_n hx hb dL_cell_38 rfl (lv_at hl 0 rfl) ?_
  refine lv_bipush (v := 16) hx hb dL_cell_39 (by decide) ?_
  refine lv_iushr (v := (v_2.toUInt32 >>> ((16 : Int32).toUInt32 &&& Int32.toUInt32 31)).toInt32) hx hb dL_cell_41 rfl ?_
  refine lv_ixor hx hb dL_cell_42 ?_
  exact GoI.end hx hb hr hlocks dL_cell_43 rfl h

set_option maxHeartbeats 4000000 in
set_option maxRecDepth 100000 in
theorem kL_cell (l : Launch) (sb : Nat) (T : SC) (x1 : Int32) (r : Int32) (h : pL_cell T x1 = some r) : Met l yL_cell wsL_cell rmL_cell (va_Pc [.ref sb, .int x1] (scP sb T)) (vp_Si (fun v => v = r)) 0 0 (fun _ => False) := by
  refine Met.ofW (cc := cL_cell) (maxL := 3) (ret := (some .int)) (by decide) rfl ?_
  intro p e s m args below meth c s₁ B hml hv
  obtain ⟨rfl, hX, hbl⟩ := hv
  have bx := bx_of B hml
  obtain ⟨hx, hb, hr, hts, hown, hml, hlocks⟩ := id bx
  have hl := lv_entry ([.ref sb, .int x1]) (n := 3) (Nat.le_of_ble_eq_true rfl)
  rw [lg_entry_eq]
  generalize (lg_sl ([.ref sb, .int x1]) ++ List.replicate (3 - (lg_sl ([.ref sb, .int x1])).length) Slot.unset).toArray = ls at hl ⊢
  have hl : lv_has ls 3 [(0, .ref sb), (1, .int x1)] := hl
  show GoI p l e rmL_cell s m _ below meth c r (F0 m 0 ls [])
  unfold pL_cell at h
  refine lv_ldc (own := RL) (v := 69069) hx hb hown (w_mem hts 1 rfl) dL_cell_0 ?_
  refine lv_iload_n hx hb dL_cell_2 rfl (lv_at hl 1 rfl) ?_
  refine lv_aload_n hx hb dL_cell_3 rfl (lv_at hl 0 rfl) ?_
  refine va_slen hx hb hX hbl (fun h => h) (va_S.rf (A := fun _ => False)) dL_cell_4 ?_
  refine lv_icmp_ge (tgt := 14) hx hb dL_cell_5 (by decide) (fun c_5 => ?_) (fun c_5 => ?_)
  · have h := br_T h c_5
    refine lv_iconst (v := 0) hx hb dL_cell_14 (by decide) ?_
    exact wL_cell_15 bx hX hbl x1 69069 0 h _ (lv_sub hl [1] rfl)
  · have h := br_F h c_5
    refine lv_aload_n hx hb dL_cell_8 rfl (lv_at hl 0 rfl) ?_
    refine lv_iload_n hx hb dL_cell_9 rfl (lv_at hl 1 rfl) ?_
    obtain ⟨g10, h⟩ := gd_ex h
    refine va_sld hx hb hX hbl (fun h => h) (va_S.rf (A := fun _ => False)) g10 dL_cell_10 ?_
    refine lv_goto (tgt := 15) hx hb dL_cell_11 (by decide) ?_
    exact wL_cell_15 bx hX hbl x1 69069 (T.2 x1.toNatClampNeg) h _ (lv_sub hl [1] rfl)

def rmL_in : Room := { frames := 1, cells := 0, slots := 0, locals := 22 }

set_option maxHeartbeats 4000000 in
set_option maxRecDepth 100000 in
theorem kL_in (l : Launch) (sb : Nat) (T : SC) (x1 : Int32) (x2 : Int32) (r : Int32) (h : pL_in T x1 x2 = some r) : Met l yL_in wsL_in rmL_in (va_Pc [.ref sb, .int x1, .int x2] (scP sb T)) (vp_Si (fun v => v = r)) 0 0 (fun _ => False) := by
  refine Met.ofW (cc := cL_in) (maxL := 3) (ret := (some .int)) (by decide) rfl ?_
  intro p e s m args below meth c s₁ B hml hv
  obtain ⟨rfl, hX, hbl⟩ := hv
  have bx := bx_of B hml
  obtain ⟨hx, hb, hr, hts, hown, hml, hlocks⟩ := id bx
  have hl := lv_entry ([.ref sb, .int x1, .int x2]) (n := 3) (Nat.le_of_ble_eq_true rfl)
  rw [lg_entry_eq]
  generalize (lg_sl ([.ref sb, .int x1, .int x2]) ++ List.replicate (3 - (lg_sl ([.ref sb, .int x1, .int x2])).length) Slot.unset).toArray = ls at hl ⊢
  have hl : lv_has ls 3 [(0, .ref sb), (1, .int x1), (2, .int x2)] := hl
  show GoI p l e rmL_in s m _ below meth c r (F0 m 0 ls [])
  unfold pL_in at h
  refine lv_aload_n hx hb dL_in_0 rfl (lv_at hl 0 rfl) ?_
  refine lv_iload_n hx hb dL_in_1 rfl (lv_at hl 1 rfl) ?_
  obtain ⟨r_1, hr_1, h⟩ := bd_ex h
  refine ro_i (va_runS (As := [.ref sb, .int x1]) (rest := []) ⟨hx, hb, hml, hown, hts⟩ (kL_cell l sb T x1 r_1 hr_1) (va_cwS 2 hts gL_in_L_cell rfl rfl rfl (by decide +kernel) ⟨Nat.le_of_ble_eq_true rfl, Nat.le_of_ble_eq_true rfl⟩) (scS hX hbl (fun h => h) (va_S.rf (A := fun _ => False))) rfl rfl hl.1 rfl (lv_room (Nat.le_of_ble_eq_true rfl)) dL_in_2 ⟨Nat.zero_le _, Nat.zero_le _⟩) ?_
  refine lv_ldc (own := RL) (v := 2147483647) hx hb hown (w_mem hts 1 rfl) dL_in_5 ?_
  refine lv_iand hx hb dL_in_7 ?_
  refine lv_iload_n hx hb dL_in_8 rfl (lv_at hl 2 rfl) ?_
  obtain ⟨g9, h⟩ := gd_ex h
  refine lv_irem hx hb dL_in_9 g9 ?_
  exact GoI.end hx hb hr hlocks dL_in_10 rfl h

def rmL_isIn : Room := { frames := 0, cells := 0, slots := 0, locals := 0 }

set_option maxHeartbeats 4000000 in
set_option maxRecDepth 100000 in
theorem kL_isIn (l : Launch) (x0 : Int32) (x1 : Int32) (r : Int32) (h : pL_isIn x0 x1 = some r) : Met l yL_isIn wsL_isIn rmL_isIn (va_Pc [.int x0, .int x1] noP) (vp_Si (fun v => v = r)) 0 0 (fun _ => False) := by
  refine Met.ofW (cc := cL_isIn) (maxL := 2) (ret := (some .boolean)) (by decide) rfl ?_
  intro p e s m args below meth c s₁ B hml hv
  obtain ⟨rfl, -⟩ := hv
  have bx := bx_of B hml
  obtain ⟨hx, hb, hr, hts, hown, hml, hlocks⟩ := id bx
  have hl := lv_entry ([.int x0, .int x1]) (n := 2) (Nat.le_of_ble_eq_true rfl)
  rw [lg_entry_eq]
  generalize (lg_sl ([.int x0, .int x1]) ++ List.replicate (2 - (lg_sl ([.int x0, .int x1])).length) Slot.unset).toArray = ls at hl ⊢
  have hl : lv_has ls 2 [(0, .int x0), (1, .int x1)] := hl
  show GoI p l e rmL_isIn s m _ below meth c r (F0 m 0 ls [])
  unfold pL_isIn at h
  refine lv_iload_n hx hb dL_isIn_0 rfl (lv_at hl 0 rfl) ?_
  refine lv_iload_n hx hb dL_isIn_1 rfl (lv_at hl 1 rfl) ?_
  refine lv_ishr hx hb dL_isIn_2 ?_
  refine lv_iconst (v := 1) hx hb dL_isIn_3 (by decide) ?_
  refine lv_iand hx hb dL_isIn_4 ?_
  refine lv_iconst (v := 1) hx hb dL_isIn_5 (by decide) ?_
  refine lv_icmp_ne (tgt := 13) hx hb dL_isIn_6 (by decide) (fun c_6 => ?_) (fun c_6 => ?_)
  · have h := br_F h c_6
    refine lv_iconst (v := 0) hx hb dL_isIn_13 (by decide) ?_
    exact GoI.end hx hb hr hlocks dL_isIn_14 rfl h
  · have h := br_T h c_6
    refine lv_iconst (v := 1) hx hb dL_isIn_9 (by decide) ?_
    refine lv_goto (tgt := 14) hx hb dL_isIn_10 (by decide) ?_
    exact GoI.end hx hb hr hlocks dL_isIn_14 rfl h

def rmL_many : Room := { frames := 0, cells := 0, slots := 0, locals := 0 }

set_option maxHeartbeats 4000000 in
set_option maxRecDepth 100000 in
theorem wL_many_4_b {p : Program} {l : Launch} {e : Env} {s : State} {m : MethodId} {args : Array Value} {below : List Frame} {meth : Method} {c : Code} {out : Int32} (bx : BX p RL wsL_many cL_many 3 (some .int) s m args meth c) {k4 : Int32 → Int32 → Option (Int32)} (hk4 : ∀ (x1 : Int32) (x2 : Int32), k4 x1 x2 = some out → ∀ (ls : Array Slot), lv_has ls 3 [(1, .int x1), (2, .int x2)] → GoI p l e rmL_many s m args below meth c out (F0 m 4 ls [])) (x1 : Int32) (x2 : Int32) (h : pL_many_4_b k4 x1 x2 = some out) (ls : Array Slot) (hl : lv_has ls 3 [(1, .int x1), (2, .int x2)]) : GoI p l e rmL_many s m args below meth c out (F0 m 4 ls []) := by
  obtain ⟨hx, hb, hr, hts, hown, hml, hlocks⟩ := id bx
  unfold pL_many_4_b at h
  refine lv_iload_n hx hb dL_many_4 rfl (lv_at hl 1 rfl) ?_
  refine lv_if_eq (tgt := 20) hx hb dL_many_5 (by decide) (fun c_5 => ?_) (fun c_5 => ?_)
  · have h := br_T h c_5
    refine lv_iload_n hx hb dL_many_20 rfl (lv_at hl 0 rfl) ?_
    exact GoI.end hx hb hr hlocks dL_many_21 rfl h
  · have h := br_F h c_5
    obtain ⟨v_1, ev_1, h⟩ := ltv_ex h
    refine lv_iinc (v := v_1) (lv' := [(1, .int v_1), (2, .int x2)]) hx hb dL_many_8 hl (k := 0) rfl (by rw [ev_1]; rfl) (by decide) rfl (fun ls hl => ?_)
    refine lv_iload_n hx hb dL_many_11 rfl (lv_at hl 1 rfl) ?_
    refine lv_iload_n hx hb dL_many_12 rfl (lv_at hl 1 rfl) ?_
    refine lv_iconst (v := 1) hx hb dL_many_13 (by decide) ?_
    refine lv_isub hx hb dL_many_14 ?_
    refine lv_iand hx hb dL_many_15 ?_
    refine lv_topi (fun v_2 ev_2 => ?_)
    have h := ltv_at h v_2 ev_2
    refine lv_istore_n (lv' := [(2, .int v_2), (1, .int v_1)]) hx hb dL_many_16 rfl hl (by decide) rfl (fun ls hl => ?_)
    refine lv_goto (tgt := 4) hx hb dL_many_17 (by decide) ?_
    exact hk4 v_1 v_2 h _ (lv_sub hl [1, 0] rfl)

theorem wL_many_4 {p : Program} {l : Launch} {e : Env} {s : State} {m : MethodId} {args : Array Value} {below : List Frame} {meth : Method} {c : Code} {out : Int32} (bx : BX p RL wsL_many cL_many 3 (some .int) s m args meth c) :
    ∀ (n : Nat) (x1 : Int32) (x2 : Int32), pL_many_4 n x1 x2 = some out → ∀ (ls : Array Slot), lv_has ls 3 [(1, .int x1), (2, .int x2)] → GoI p l e rmL_many s m args below meth c out (F0 m 4 ls []) := by
  intro n
  induction n with
  | zero => intro _ _ h; cases h
  | succ n ih => exact fun a0 a1 h ls hl => wL_many_4_b bx ih a0 a1 h ls hl

set_option maxHeartbeats 4000000 in
set_option maxRecDepth 100000 in
theorem kL_many (l : Launch) (x0 : Int32) (r : Int32) (h : pL_many x0 = some r) : Met l yL_many wsL_many rmL_many (va_Pc [.int x0] noP) (vp_Si (fun v => v = r)) 0 0 (fun _ => False) := by
  refine Met.ofW (cc := cL_many) (maxL := 3) (ret := (some .int)) (by decide) rfl ?_
  intro p e s m args below meth c s₁ B hml hv
  obtain ⟨rfl, -⟩ := hv
  have bx := bx_of B hml
  obtain ⟨hx, hb, hr, hts, hown, hml, hlocks⟩ := id bx
  have hl := lv_entry ([.int x0]) (n := 3) (Nat.le_of_ble_eq_true rfl)
  rw [lg_entry_eq]
  generalize (lg_sl ([.int x0]) ++ List.replicate (3 - (lg_sl ([.int x0])).length) Slot.unset).toArray = ls at hl ⊢
  have hl : lv_has ls 3 [(0, .int x0)] := hl
  show GoI p l e rmL_many s m _ below meth c r (F0 m 0 ls [])
  unfold pL_many at h
  refine lv_iconst (v := 0) hx hb dL_many_0 (by decide) ?_
  refine lv_istore_n (lv' := [(1, .int 0), (0, .int x0)]) hx hb dL_many_1 rfl hl (by decide) rfl (fun ls hl => ?_)
  refine lv_iload_n hx hb dL_many_2 rfl (lv_at hl 1 rfl) ?_
  refine lv_istore_n (lv' := [(2, .int x0), (1, .int 0), (0, .int x0)]) hx hb dL_many_3 rfl hl (by decide) rfl (fun ls hl => ?_)
  exact wL_many_4 bx FU 0 x0 h _ (lv_sub hl [1, 0] rfl)

def rmL_isTree (d : Nat) : Room := { frames := d + 1, cells := 0, slots := 0, locals := 25 * d + 21 }

set_option maxHeartbeats 4000000 in
set_option maxRecDepth 100000 in
theorem wL_isTree_132 {p : Program} {l : Launch} {e : Env} {s : State} {m : MethodId} {args : Array Value} {below : List Frame} {meth : Method} {c : Code} {G : GT} {q : Nat → Nat} {C : St} {d : Nat} {out : Int32} (bx : BX p RL wsL_isTree cL_isTree 6 (some .boolean) s m args meth c) (hP : va_P G.1 vwCl (NW G q C) s.heap) (hK : CK G s) {k10 : St → Int32 → Int32 → Int32 → Int32 → Int32 → Option (Int32)} (hk10 : ∀ (x1 : Int32) (x2 : Int32) (x3 : Int32) (x4 : Int32) (x5 : Int32), k10 C x1 x2 x3 x4 x5 = some out → ∀ (ls : Array Slot), lv_has ls 6 [(0, .ref (q 20)), (1, .int x1), (2, .int x2), (3, .int x3), (4, .int x4), (5, .int x5)] → GoI p l e (rmL_isTree (d + 1)) s m args below meth c out (F0 m 10 ls [])) (x1 : Int32) (x2 : Int32) (x3 : Int32) (x4 : Int32) (x5 : Int32) (h : pL_isTree_132 k10 C x1 x2 x3 x4 x5 = some out) (ls : Array Slot) (hl : lv_has ls 6 [(0, .ref (q 20)), (1, .int x1), (2, .int x2), (3, .int x3), (4, .int x4), (5, .int x5)]) : GoI p l e (rmL_isTree (d + 1)) s m args below meth c out (F0 m 132 ls []) := by
  obtain ⟨hx, hb, hr, hts, hown, hml, hlocks⟩ := id bx
  unfold pL_isTree_132 at h
  obtain ⟨v_3, ev_3, h⟩ := ltv_ex h
  refine lv_iinc (v := v_3) (lv' := [(5, .int v_3), (0, .ref (q 20)), (1, .int x1), (2, .int x2), (3, .int x3), (4, .int x4)]) hx hb dL_isTree_132 hl (k := 5) rfl (by rw [ev_3]; rfl) (by decide) rfl (fun ls hl => ?_)
  refine lv_goto (tgt := 10) hx hb dL_isTree_135 (by decide) ?_
  exact hk10 x1 x2 x3 x4 v_3 h _ (lv_sub hl [1, 2, 3, 4, 5, 0] rfl)

set_option maxHeartbeats 4000000 in
set_option maxRecDepth 100000 in
theorem wL_isTree_130 {p : Program} {l : Launch} {e : Env} {s : State} {m : MethodId} {args : Array Value} {below : List Frame} {meth : Method} {c : Code} {G : GT} {q : Nat → Nat} {C : St} {d : Nat} {out : Int32} (bx : BX p RL wsL_isTree cL_isTree 6 (some .boolean) s m args meth c) (hP : va_P G.1 vwCl (NW G q C) s.heap) (hK : CK G s) {k10 : St → Int32 → Int32 → Int32 → Int32 → Int32 → Option (Int32)} (hk10 : ∀ (x1 : Int32) (x2 : Int32) (x3 : Int32) (x4 : Int32) (x5 : Int32), k10 C x1 x2 x3 x4 x5 = some out → ∀ (ls : Array Slot), lv_has ls 6 [(0, .ref (q 20)), (1, .int x1), (2, .int x2), (3, .int x3), (4, .int x4), (5, .int x5)] → GoI p l e (rmL_isTree (d + 1)) s m args below meth c out (F0 m 10 ls [])) (x1 : Int32) (x2 : Int32) (x3 : Int32) (x5 : Int32) (t0 : Int32) (h : pL_isTree_130 k10 C x1 x2 x3 x5 t0 = some out) (ls : Array Slot) (hl : lv_has ls 6 [(0, .ref (q 20)), (1, .int x1), (2, .int x2), (3, .int x3), (5, .int x5)]) : GoI p l e (rmL_isTree (d + 1)) s m args below meth c out (F0 m 130 ls [.int t0]) := by
  obtain ⟨hx, hb, hr, hts, hown, hml, hlocks⟩ := id bx
  unfold pL_isTree_130 at h
  refine lv_istore (lv' := [(4, .int t0), (0, .ref (q 20)), (1, .int x1), (2, .int x2), (3, .int x3), (5, .int x5)]) hx hb dL_isTree_130 hl (by decide) rfl (fun ls hl => ?_)
  exact wL_isTree_132 bx hP hK hk10 x1 x2 x3 t0 x5 h _ (lv_sub hl [1, 2, 3, 4, 0, 5] rfl)

set_option maxHeartbeats 4000000 in
set_option maxRecDepth 100000 in
theorem wL_isTree_129 {p : Program} {l : Launch} {e : Env} {s : State} {m : MethodId} {args : Array Value} {below : List Frame} {meth : Method} {c : Code} {G : GT} {q : Nat → Nat} {C : St} {d : Nat} {out : Int32} (bx : BX p RL wsL_isTree cL_isTree 6 (some .boolean) s m args meth c) (hP : va_P G.1 vwCl (NW G q C) s.heap) (hK : CK G s) {k10 : St → Int32 → Int32 → Int32 → Int32 → Int32 → Option (Int32)} (hk10 : ∀ (x1 : Int32) (x2 : Int32) (x3 : Int32) (x4 : Int32) (x5 : Int32), k10 C x1 x2 x3 x4 x5 = some out → ∀ (ls : Array Slot), lv_has ls 6 [(0, .ref (q 20)), (1, .int x1), (2, .int x2), (3, .int x3), (4, .int x4), (5, .int x5)] → GoI p l e (rmL_isTree (d + 1)) s m args below meth c out (F0 m 10 ls [])) (x1 : Int32) (x2 : Int32) (x3 : Int32) (x5 : Int32) (h : pL_isTree_129 k10 C x1 x2 x3 x5 = some out) (ls : Array Slot) (hl : lv_has ls 6 [(0, .ref (q 20)), (1, .int x1), (2, .int x2), (3, .int x3), (5, .int x5)]) : GoI p l e (rmL_isTree (d + 1)) s m args below meth c out (F0 m 129 ls []) := by
  obtain ⟨hx, hb, hr, hts, hown, hml, hlocks⟩ := id bx
  unfold pL_isTree_129 at h
  refine lv_iconst (v := 0) hx hb dL_isTree_129 (by decide) ?_
  exact wL_isTree_130 bx hP hK hk10 x1 x2 x3 x5 0 h _ (lv_sub hl [0, 1, 2, 3, 4] rfl)

set_option maxHeartbeats 4000000 in
set_option maxRecDepth 100000 in
theorem wL_isTree_107 {p : Program} {l : Launch} {e : Env} {s : State} {m : MethodId} {args : Array Value} {below : List Frame} {meth : Method} {c : Code} {G : GT} {q : Nat → Nat} {C : St} {d : Nat} {self : St → Int32 → Int32 → Option (Int32)} (hself : ∀ (x1 : Int32) (x2 : Int32) (r : Int32), self C x1 x2 = some r → Met l yL_isTree wsL_isTree (rmL_isTree d) (va_Pc [.ref (q 20), .int x1, .int x2] (roP G (NW G q C))) (vp_Si (fun v => v = r)) 0 0 (fun _ => False)) {out : Int32} (bx : BX p RL wsL_isTree cL_isTree 6 (some .boolean) s m args meth c) (hP : va_P G.1 vwCl (NW G q C) s.heap) (hK : CK G s) {k10 : St → Int32 → Int32 → Int32 → Int32 → Int32 → Option (Int32)} (hk10 : ∀ (x1 : Int32) (x2 : Int32) (x3 : Int32) (x4 : Int32) (x5 : Int32), k10 C x1 x2 x3 x4 x5 = some out → ∀ (ls : Array Slot), lv_has ls 6 [(0, .ref (q 20)), (1, .int x1), (2, .int x2), (3, .int x3), (4, .int x4), (5, .int x5)] → GoI p l e (rmL_isTree (d + 1)) s m args below meth c out (F0 m 10 ls [])) (x1 : Int32) (x2 : Int32) (x3 : Int32) (x5 : Int32) (t0 : Int32) (t1 : Int32) (h : pL_isTree_107 self k10 C x1 x2 x3 x5 t0 t1 = some out) (ls : Array Slot) (hl : lv_has ls 6 [(0, .ref (q 20)), (1, .int x1), (2, .int x2), (3, .int x3), (5, .int x5)]) : GoI p l e (rmL_isTree (d + 1)) s m args below meth c out (F0 m 107 ls [.int t1, .int t0]) := by
  obtain ⟨hx, hb, hr, hts, hown, hml, hlocks⟩ := id bx
  unfold pL_isTree_107 at h
  refine lv_iand hx hb dL_isTree_107 ?_
  refine lv_topi (fun v_9 ev_9 => ?_)
  have h := ltv_at h v_9 ev_9
  refine lv_istore (lv' := [(4, .int v_9), (0, .ref (q 20)), (1, .int x1), (2, .int x2), (3, .int x3), (5, .int x5)]) hx hb dL_isTree_108 hl (by decide) rfl (fun ls hl => ?_)
  refine lv_iload hx hb dL_isTree_110 (lv_at hl 0 rfl) ?_
  refine lv_if_eq (tgt := 129) hx hb dL_isTree_112 (by decide) (fun c_112 => ?_) (fun c_112 => ?_)
  · have h := br_T h c_112
    exact wL_isTree_129 bx hP hK hk10 x1 x2 x3 x5 h _ (lv_sub hl [1, 2, 3, 4, 5] rfl)
  · have h := br_F h c_112
    refine lv_aload_n hx hb dL_isTree_115 rfl (lv_at hl 1 rfl) ?_
    refine lv_iload_n hx hb dL_isTree_116 rfl (lv_at hl 2 rfl) ?_
    refine lv_iload hx hb dL_isTree_117 (lv_at hl 5 rfl) ?_
    obtain ⟨r_10, hr_10, h⟩ := bd_ex h
    refine ro_i (va_runS (As := [.ref (q 20), .int x1, .int x5]) (rest := []) ⟨hx, hb, hml, hown, hts⟩ (hself x1 x5 r_10 hr_10) (va_cwS 3 hts gL_isTree_L_isTree rfl rfl rfl (by decide +kernel) ⟨by simp only [rmL_isTree]; omega, by simp only [rmL_isTree]; omega⟩) (roS hP hK) rfl rfl hl.1 rfl (lv_room (Nat.le_of_ble_eq_true rfl)) dL_isTree_119 ⟨Nat.zero_le _, Nat.zero_le _⟩) ?_
    refine lv_if_eq (tgt := 129) hx hb dL_isTree_122 (by decide) (fun c_122 => ?_) (fun c_122 => ?_)
    · have h := br_T h c_122
      exact wL_isTree_129 bx hP hK hk10 x1 x2 x3 x5 h _ (lv_sub hl [1, 2, 3, 4, 5] rfl)
    · have h := br_F h c_122
      refine lv_iconst (v := 1) hx hb dL_isTree_125 (by decide) ?_
      refine lv_goto (tgt := 130) hx hb dL_isTree_126 (by decide) ?_
      exact wL_isTree_130 bx hP hK hk10 x1 x2 x3 x5 1 h _ (lv_sub hl [1, 2, 3, 4, 5] rfl)

set_option maxHeartbeats 4000000 in
set_option maxRecDepth 100000 in
theorem wL_isTree_102 {p : Program} {l : Launch} {e : Env} {s : State} {m : MethodId} {args : Array Value} {below : List Frame} {meth : Method} {c : Code} {G : GT} {q : Nat → Nat} {C : St} {d : Nat} {self : St → Int32 → Int32 → Option (Int32)} (hself : ∀ (x1 : Int32) (x2 : Int32) (r : Int32), self C x1 x2 = some r → Met l yL_isTree wsL_isTree (rmL_isTree d) (va_Pc [.ref (q 20), .int x1, .int x2] (roP G (NW G q C))) (vp_Si (fun v => v = r)) 0 0 (fun _ => False)) {out : Int32} (bx : BX p RL wsL_isTree cL_isTree 6 (some .boolean) s m args meth c) (hP : va_P G.1 vwCl (NW G q C) s.heap) (hK : CK G s) {k10 : St → Int32 → Int32 → Int32 → Int32 → Int32 → Option (Int32)} (hk10 : ∀ (x1 : Int32) (x2 : Int32) (x3 : Int32) (x4 : Int32) (x5 : Int32), k10 C x1 x2 x3 x4 x5 = some out → ∀ (ls : Array Slot), lv_has ls 6 [(0, .ref (q 20)), (1, .int x1), (2, .int x2), (3, .int x3), (4, .int x4), (5, .int x5)] → GoI p l e (rmL_isTree (d + 1)) s m args below meth c out (F0 m 10 ls [])) (x1 : Int32) (x2 : Int32) (x3 : Int32) (x5 : Int32) (t0 : Int32) (h : pL_isTree_102 self k10 C x1 x2 x3 x5 t0 = some out) (ls : Array Slot) (hl : lv_has ls 6 [(0, .ref (q 20)), (1, .int x1), (2, .int x2), (3, .int x3), (5, .int x5)]) : GoI p l e (rmL_isTree (d + 1)) s m args below meth c out (F0 m 102 ls [.int t0]) := by
  obtain ⟨hx, hb, hr, hts, hown, hml, hlocks⟩ := id bx
  unfold pL_isTree_102 at h
  refine lv_iconst (v := 1) hx hb dL_isTree_102 (by decide) ?_
  refine lv_goto (tgt := 107) hx hb dL_isTree_103 (by decide) ?_
  exact wL_isTree_107 hself bx hP hK hk10 x1 x2 x3 x5 t0 1 h _ (lv_sub hl [0, 1, 2, 3, 4] rfl)

set_option maxHeartbeats 4000000 in
set_option maxRecDepth 100000 in
theorem wL_isTree_80 {p : Program} {l : Launch} {e : Env} {s : State} {m : MethodId} {args : Array Value} {below : List Frame} {meth : Method} {c : Code} {G : GT} {q : Nat → Nat} {C : St} {d : Nat} {self : St → Int32 → Int32 → Option (Int32)} (hself : ∀ (x1 : Int32) (x2 : Int32) (r : Int32), self C x1 x2 = some r → Met l yL_isTree wsL_isTree (rmL_isTree d) (va_Pc [.ref (q 20), .int x1, .int x2] (roP G (NW G q C))) (vp_Si (fun v => v = r)) 0 0 (fun _ => False)) {out : Int32} (bx : BX p RL wsL_isTree cL_isTree 6 (some .boolean) s m args meth c) (hP : va_P G.1 vwCl (NW G q C) s.heap) (hK : CK G s) {k10 : St → Int32 → Int32 → Int32 → Int32 → Int32 → Option (Int32)} (hk10 : ∀ (x1 : Int32) (x2 : Int32) (x3 : Int32) (x4 : Int32) (x5 : Int32), k10 C x1 x2 x3 x4 x5 = some out → ∀ (ls : Array Slot), lv_has ls 6 [(0, .ref (q 20)), (1, .int x1), (2, .int x2), (3, .int x3), (4, .int x4), (5, .int x5)] → GoI p l e (rmL_isTree (d + 1)) s m args below meth c out (F0 m 10 ls [])) (x1 : Int32) (x2 : Int32) (x3 : Int32) (x5 : Int32) (t0 : Int32) (t1 : Int32) (h : pL_isTree_80 self k10 C x1 x2 x3 x5 t0 t1 = some out) (ls : Array Slot) (hl : lv_has ls 6 [(0, .ref (q 20)), (1, .int x1), (2, .int x2), (3, .int x3), (5, .int x5)]) : GoI p l e (rmL_isTree (d + 1)) s m args below meth c out (F0 m 80 ls [.int t1, .int t0]) := by
  obtain ⟨hx, hb, hr, hts, hown, hml, hlocks⟩ := id bx
  unfold pL_isTree_80 at h
  refine lv_iand hx hb dL_isTree_80 ?_
  refine lv_topi (fun v_7 ev_7 => ?_)
  have h := ltv_at h v_7 ev_7
  refine lv_istore (lv' := [(4, .int v_7), (0, .ref (q 20)), (1, .int x1), (2, .int x2), (3, .int x3), (5, .int x5)]) hx hb dL_isTree_81 hl (by decide) rfl (fun ls hl => ?_)
  refine lv_iload hx hb dL_isTree_83 (lv_at hl 0 rfl) ?_
  refine lv_iload_n hx hb dL_isTree_85 rfl (lv_at hl 2 rfl) ?_
  refine lv_iload_n hx hb dL_isTree_86 rfl (lv_at hl 3 rfl) ?_
  obtain ⟨r_8, hr_8, h⟩ := bd_ex h
  refine ro_i (va_runS (As := [.int x1, .int x2]) (rest := [.int v_7]) ⟨hx, hb, hml, hown, hts⟩ (kL_isIn l x1 x2 r_8 hr_8) (va_cwS 2 hts gL_isTree_L_isIn rfl rfl rfl (by decide +kernel) ⟨by simp only [rmL_isTree, rmL_isIn]; omega, by simp only [rmL_isTree, rmL_isIn]; omega⟩) noS rfl rfl hl.1 rfl (lv_room (Nat.le_of_ble_eq_true rfl)) dL_isTree_87 ⟨Nat.zero_le _, Nat.zero_le _⟩) ?_
  refine lv_if_ne (tgt := 102) hx hb dL_isTree_90 (by decide) (fun c_90 => ?_) (fun c_90 => ?_)
  · have h := br_F h c_90
    exact wL_isTree_102 hself bx hP hK hk10 x1 x2 x3 x5 v_7 h _ (lv_sub hl [1, 2, 3, 4, 5] rfl)
  · have h := br_T h c_90
    refine lv_iload_n hx hb dL_isTree_93 rfl (lv_at hl 2 rfl) ?_
    refine lv_iload hx hb dL_isTree_94 (lv_at hl 5 rfl) ?_
    obtain ⟨r_11, hr_11, h⟩ := bd_ex h
    refine ro_i (va_runS (As := [.int x1, .int x5]) (rest := [.int v_7]) ⟨hx, hb, hml, hown, hts⟩ (kL_isIn l x1 x5 r_11 hr_11) (va_cwS 2 hts gL_isTree_L_isIn rfl rfl rfl (by decide +kernel) ⟨by simp only [rmL_isTree, rmL_isIn]; omega, by simp only [rmL_isTree, rmL_isIn]; omega⟩) noS rfl rfl hl.1 rfl (lv_room (Nat.le_of_ble_eq_true rfl)) dL_isTree_96 ⟨Nat.zero_le _, Nat.zero_le _⟩) ?_
    refine lv_if_ne (tgt := 106) hx hb dL_isTree_99 (by decide) (fun c_99 => ?_) (fun c_99 => ?_)
    · have h := br_F h c_99
      refine lv_iconst (v := 0) hx hb dL_isTree_106 (by decide) ?_
      exact wL_isTree_107 hself bx hP hK hk10 x1 x2 x3 x5 v_7 0 h _ (lv_sub hl [1, 2, 3, 4, 5] rfl)
    · have h := br_T h c_99
      exact wL_isTree_102 hself bx hP hK hk10 x1 x2 x3 x5 v_7 h _ (lv_sub hl [1, 2, 3, 4, 5] rfl)

set_option maxHeartbeats 4000000 in
set_option maxRecDepth 100000 in
theorem wL_isTree_75 {p : Program} {l : Launch} {e : Env} {s : State} {m : MethodId} {args : Array Value} {below : List Frame} {meth : Method} {c : Code} {G : GT} {q : Nat → Nat} {C : St} {d : Nat} {self : St → Int32 → Int32 → Option (Int32)} (hself : ∀ (x1 : Int32) (x2 : Int32) (r : Int32), self C x1 x2 = some r → Met l yL_isTree wsL_isTree (rmL_isTree d) (va_Pc [.ref (q 20), .int x1, .int x2] (roP G (NW G q C))) (vp_Si (fun v => v = r)) 0 0 (fun _ => False)) {out : Int32} (bx : BX p RL wsL_isTree cL_isTree 6 (some .boolean) s m args meth c) (hP : va_P G.1 vwCl (NW G q C) s.heap) (hK : CK G s) {k10 : St → Int32 → Int32 → Int32 → Int32 → Int32 → Option (Int32)} (hk10 : ∀ (x1 : Int32) (x2 : Int32) (x3 : Int32) (x4 : Int32) (x5 : Int32), k10 C x1 x2 x3 x4 x5 = some out → ∀ (ls : Array Slot), lv_has ls 6 [(0, .ref (q 20)), (1, .int x1), (2, .int x2), (3, .int x3), (4, .int x4), (5, .int x5)] → GoI p l e (rmL_isTree (d + 1)) s m args below meth c out (F0 m 10 ls [])) (x1 : Int32) (x2 : Int32) (x3 : Int32) (x5 : Int32) (t0 : Int32) (h : pL_isTree_75 self k10 C x1 x2 x3 x5 t0 = some out) (ls : Array Slot) (hl : lv_has ls 6 [(0, .ref (q 20)), (1, .int x1), (2, .int x2), (3, .int x3), (5, .int x5)]) : GoI p l e (rmL_isTree (d + 1)) s m args below meth c out (F0 m 75 ls [.int t0]) := by
  obtain ⟨hx, hb, hr, hts, hown, hml, hlocks⟩ := id bx
  unfold pL_isTree_75 at h
  refine lv_iconst (v := 1) hx hb dL_isTree_75 (by decide) ?_
  refine lv_goto (tgt := 80) hx hb dL_isTree_76 (by decide) ?_
  exact wL_isTree_80 hself bx hP hK hk10 x1 x2 x3 x5 t0 1 h _ (lv_sub hl [0, 1, 2, 3, 4] rfl)

set_option maxHeartbeats 4000000 in
set_option maxRecDepth 100000 in
theorem wL_isTree_44 {p : Program} {l : Launch} {e : Env} {s : State} {m : MethodId} {args : Array Value} {below : List Frame} {meth : Method} {c : Code} {G : GT} {q : Nat → Nat} {C : St} {d : Nat} {self : St → Int32 → Int32 → Option (Int32)} (hself : ∀ (x1 : Int32) (x2 : Int32) (r : Int32), self C x1 x2 = some r → Met l yL_isTree wsL_isTree (rmL_isTree d) (va_Pc [.ref (q 20), .int x1, .int x2] (roP G (NW G q C))) (vp_Si (fun v => v = r)) 0 0 (fun _ => False)) {out : Int32} (bx : BX p RL wsL_isTree cL_isTree 6 (some .boolean) s m args meth c) (hP : va_P G.1 vwCl (NW G q C) s.heap) (hK : CK G s) {k10 : St → Int32 → Int32 → Int32 → Int32 → Int32 → Option (Int32)} (hk10 : ∀ (x1 : Int32) (x2 : Int32) (x3 : Int32) (x4 : Int32) (x5 : Int32), k10 C x1 x2 x3 x4 x5 = some out → ∀ (ls : Array Slot), lv_has ls 6 [(0, .ref (q 20)), (1, .int x1), (2, .int x2), (3, .int x3), (4, .int x4), (5, .int x5)] → GoI p l e (rmL_isTree (d + 1)) s m args below meth c out (F0 m 10 ls [])) (x1 : Int32) (x2 : Int32) (x4 : Int32) (x5 : Int32) (t0 : Int32) (t1 : Int32) (h : pL_isTree_44 self k10 C x1 x2 x4 x5 t0 t1 = some out) (ls : Array Slot) (hl : lv_has ls 6 [(0, .ref (q 20)), (1, .int x1), (2, .int x2), (4, .int x4), (5, .int x5)]) : GoI p l e (rmL_isTree (d + 1)) s m args below meth c out (F0 m 44 ls [.int t1, .int t0]) := by
  obtain ⟨hx, hb, hr, hts, hown, hml, hlocks⟩ := id bx
  unfold pL_isTree_44 at h
  refine lv_iadd hx hb dL_isTree_44 ?_
  refine lv_topi (fun v_5 ev_5 => ?_)
  have h := ltv_at h v_5 ev_5
  refine lv_istore_n (lv' := [(3, .int v_5), (0, .ref (q 20)), (1, .int x1), (2, .int x2), (4, .int x4), (5, .int x5)]) hx hb dL_isTree_45 rfl hl (by decide) rfl (fun ls hl => ?_)
  refine lv_iload hx hb dL_isTree_46 (lv_at hl 4 rfl) ?_
  refine lv_iload_n hx hb dL_isTree_48 rfl (lv_at hl 2 rfl) ?_
  refine lv_iload hx hb dL_isTree_49 (lv_at hl 5 rfl) ?_
  obtain ⟨r_6, hr_6, h⟩ := bd_ex h
  refine ro_i (va_runS (As := [.int x1, .int x5]) (rest := [.int x4]) ⟨hx, hb, hml, hown, hts⟩ (kL_isIn l x1 x5 r_6 hr_6) (va_cwS 2 hts gL_isTree_L_isIn rfl rfl rfl (by decide +kernel) ⟨by simp only [rmL_isTree, rmL_isIn]; omega, by simp only [rmL_isTree, rmL_isIn]; omega⟩) noS rfl rfl hl.1 rfl (lv_room (Nat.le_of_ble_eq_true rfl)) dL_isTree_51 ⟨Nat.zero_le _, Nat.zero_le _⟩) ?_
  refine lv_if_ne (tgt := 75) hx hb dL_isTree_54 (by decide) (fun c_54 => ?_) (fun c_54 => ?_)
  · have h := br_F h c_54
    exact wL_isTree_75 hself bx hP hK hk10 x1 x2 v_5 x5 x4 h _ (lv_sub hl [1, 2, 3, 0, 5] rfl)
  · have h := br_T h c_54
    refine lv_aload_n hx hb dL_isTree_57 rfl (lv_at hl 1 rfl) ?_
    refine lv_bipush (v := 90) hx hb dL_isTree_58 (by decide) ?_
    refine lv_iload hx hb dL_isTree_60 (lv_at hl 5 rfl) ?_
    refine lv_iadd hx hb dL_isTree_62 ?_
    obtain ⟨g63, h⟩ := gd_ex h
    refine va_iald (D := G.1) hx hb hK.1 hP 0 0 rfl rfl g63 dL_isTree_63 ?_
    refine lv_if_eq (tgt := 75) hx hb dL_isTree_64 (by decide) (fun c_64 => ?_) (fun c_64 => ?_)
    · have h := br_T h c_64
      exact wL_isTree_75 hself bx hP hK hk10 x1 x2 v_5 x5 x4 h _ (lv_sub hl [1, 2, 3, 0, 5] rfl)
    · have h := br_F h c_64
      refine lv_iload_n hx hb dL_isTree_67 rfl (lv_at hl 2 rfl) ?_
      refine lv_iload_n hx hb dL_isTree_68 rfl (lv_at hl 3 rfl) ?_
      obtain ⟨r_12, hr_12, h⟩ := bd_ex h
      refine ro_i (va_runS (As := [.int x1, .int x2]) (rest := [.int x4]) ⟨hx, hb, hml, hown, hts⟩ (kL_isIn l x1 x2 r_12 hr_12) (va_cwS 2 hts gL_isTree_L_isIn rfl rfl rfl (by decide +kernel) ⟨by simp only [rmL_isTree, rmL_isIn]; omega, by simp only [rmL_isTree, rmL_isIn]; omega⟩) noS rfl rfl hl.1 rfl (lv_room (Nat.le_of_ble_eq_true rfl)) dL_isTree_69 ⟨Nat.zero_le _, Nat.zero_le _⟩) ?_
      refine lv_if_ne (tgt := 79) hx hb dL_isTree_72 (by decide) (fun c_72 => ?_) (fun c_72 => ?_)
      · have h := br_F h c_72
        refine lv_iconst (v := 0) hx hb dL_isTree_79 (by decide) ?_
        exact wL_isTree_80 hself bx hP hK hk10 x1 x2 v_5 x5 x4 0 h _ (lv_sub hl [1, 2, 3, 0, 5] rfl)
      · have h := br_T h c_72
        exact wL_isTree_75 hself bx hP hK hk10 x1 x2 v_5 x5 x4 h _ (lv_sub hl [1, 2, 3, 0, 5] rfl)

set_option maxHeartbeats 4000000 in
set_option maxRecDepth 100000 in
theorem wL_isTree_10_b {p : Program} {l : Launch} {e : Env} {s : State} {m : MethodId} {args : Array Value} {below : List Frame} {meth : Method} {c : Code} {G : GT} {q : Nat → Nat} {C : St} {d : Nat} {self : St → Int32 → Int32 → Option (Int32)} (hself : ∀ (x1 : Int32) (x2 : Int32) (r : Int32), self C x1 x2 = some r → Met l yL_isTree wsL_isTree (rmL_isTree d) (va_Pc [.ref (q 20), .int x1, .int x2] (roP G (NW G q C))) (vp_Si (fun v => v = r)) 0 0 (fun _ => False)) {out : Int32} (bx : BX p RL wsL_isTree cL_isTree 6 (some .boolean) s m args meth c) (hP : va_P G.1 vwCl (NW G q C) s.heap) (hK : CK G s) {k10 : St → Int32 → Int32 → Int32 → Int32 → Int32 → Option (Int32)} (hk10 : ∀ (x1 : Int32) (x2 : Int32) (x3 : Int32) (x4 : Int32) (x5 : Int32), k10 C x1 x2 x3 x4 x5 = some out → ∀ (ls : Array Slot), lv_has ls 6 [(0, .ref (q 20)), (1, .int x1), (2, .int x2), (3, .int x3), (4, .int x4), (5, .int x5)] → GoI p l e (rmL_isTree (d + 1)) s m args below meth c out (F0 m 10 ls [])) (x1 : Int32) (x2 : Int32) (x3 : Int32) (x4 : Int32) (x5 : Int32) (h : pL_isTree_10_b self k10 C x1 x2 x3 x4 x5 = some out) (ls : Array Slot) (hl : lv_has ls 6 [(0, .ref (q 20)), (1, .int x1), (2, .int x2), (3, .int x3), (4, .int x4), (5, .int x5)]) : GoI p l e (rmL_isTree (d + 1)) s m args below meth c out (F0 m 10 ls []) := by
  obtain ⟨hx, hb, hr, hts, hown, hml, hlocks⟩ := id bx
  unfold pL_isTree_10_b at h
  refine lv_iload hx hb dL_isTree_10 (lv_at hl 5 rfl) ?_
  refine lv_aload_n hx hb dL_isTree_12 rfl (lv_at hl 0 rfl) ?_
  refine lv_iconst (v := 0) hx hb dL_isTree_13 (by decide) ?_
  obtain ⟨g14, h⟩ := gd_ex h
  refine va_iald (D := G.1) hx hb hK.1 hP 0 0 rfl rfl g14 dL_isTree_14 ?_
  refine lv_icmp_ge (tgt := 138) hx hb dL_isTree_15 (by decide) (fun c_15 => ?_) (fun c_15 => ?_)
  · have h := br_T h c_15
    refine lv_iload hx hb dL_isTree_138 (lv_at hl 4 rfl) ?_
    refine lv_if_eq (tgt := 175) hx hb dL_isTree_140 (by decide) (fun c_140 => ?_) (fun c_140 => ?_)
    · have h := br_T h c_140
      refine lv_iconst (v := 0) hx hb dL_isTree_175 (by decide) ?_
      exact GoI.end hx hb hr hlocks dL_isTree_176 rfl h
    · have h := br_F h c_140
      refine lv_iload_n hx hb dL_isTree_143 rfl (lv_at hl 1 rfl) ?_
      refine lv_iload_n hx hb dL_isTree_144 rfl (lv_at hl 2 rfl) ?_
      obtain ⟨r_2, hr_2, h⟩ := bd_ex h
      refine ro_i (va_runS (As := [.int x1, .int x2]) (rest := []) ⟨hx, hb, hml, hown, hts⟩ (kL_isIn l x1 x2 r_2 hr_2) (va_cwS 2 hts gL_isTree_L_isIn rfl rfl rfl (by decide +kernel) ⟨by simp only [rmL_isTree, rmL_isIn]; omega, by simp only [rmL_isTree, rmL_isIn]; omega⟩) noS rfl rfl hl.1 rfl (lv_room (Nat.le_of_ble_eq_true rfl)) dL_isTree_145 ⟨Nat.zero_le _, Nat.zero_le _⟩) ?_
      refine lv_if_eq (tgt := 171) hx hb dL_isTree_148 (by decide) (fun c_148 => ?_) (fun c_148 => ?_)
      · have h := br_T h c_148
        refine lv_iconst (v := 1) hx hb dL_isTree_171 (by decide) ?_
        refine lv_goto (tgt := 176) hx hb dL_isTree_172 (by decide) ?_
        exact GoI.end hx hb hr hlocks dL_isTree_176 rfl h
      · have h := br_F h c_148
        refine lv_iload_n hx hb dL_isTree_151 rfl (lv_at hl 3 rfl) ?_
        refine lv_aload_n hx hb dL_isTree_152 rfl (lv_at hl 0 rfl) ?_
        refine lv_bipush (v := 50) hx hb dL_isTree_153 (by decide) ?_
        refine lv_iload_n hx hb dL_isTree_155 rfl (lv_at hl 2 rfl) ?_
        refine lv_iadd hx hb dL_isTree_156 ?_
        obtain ⟨g157, h⟩ := gd_ex h
        refine va_iald (D := G.1) hx hb hK.1 hP 0 0 rfl rfl g157 dL_isTree_157 ?_
        refine lv_icmp_lt (tgt := 175) hx hb dL_isTree_158 (by decide) (fun c_158 => ?_) (fun c_158 => ?_)
        · have h := br_T h c_158
          refine lv_iconst (v := 0) hx hb dL_isTree_175 (by decide) ?_
          exact GoI.end hx hb hr hlocks dL_isTree_176 rfl h
        · have h := br_F h c_158
          refine lv_iload_n hx hb dL_isTree_161 rfl (lv_at hl 3 rfl) ?_
          refine lv_aload_n hx hb dL_isTree_162 rfl (lv_at hl 0 rfl) ?_
          refine lv_bipush (v := 70) hx hb dL_isTree_163 (by decide) ?_
          refine lv_iload_n hx hb dL_isTree_165 rfl (lv_at hl 2 rfl) ?_
          refine lv_iadd hx hb dL_isTree_166 ?_
          obtain ⟨g167, h⟩ := gd_ex h
          refine va_iald (D := G.1) hx hb hK.1 hP 0 0 rfl rfl g167 dL_isTree_167 ?_
          refine lv_icmp_gt (tgt := 175) hx hb dL_isTree_168 (by decide) (fun c_168 => ?_) (fun c_168 => ?_)
          · have h := br_T h c_168
            refine lv_iconst (v := 0) hx hb dL_isTree_175 (by decide) ?_
            exact GoI.end hx hb hr hlocks dL_isTree_176 rfl h
          · have h := br_F h c_168
            refine lv_iconst (v := 1) hx hb dL_isTree_171 (by decide) ?_
            refine lv_goto (tgt := 176) hx hb dL_isTree_172 (by decide) ?_
            exact GoI.end hx hb hr hlocks dL_isTree_176 rfl h
  · have h := br_F h c_15
    refine lv_aload_n hx hb dL_isTree_18 rfl (lv_at hl 0 rfl) ?_
    refine lv_bipush (v := 10) hx hb dL_isTree_19 (by decide) ?_
    refine lv_iload hx hb dL_isTree_21 (lv_at hl 5 rfl) ?_
    refine lv_iadd hx hb dL_isTree_23 ?_
    obtain ⟨g24, h⟩ := gd_ex h
    refine va_iald (D := G.1) hx hb hK.1 hP 0 0 rfl rfl g24 dL_isTree_24 ?_
    refine lv_iload_n hx hb dL_isTree_25 rfl (lv_at hl 2 rfl) ?_
    refine lv_icmp_ne (tgt := 132) hx hb dL_isTree_26 (by decide) (fun c_26 => ?_) (fun c_26 => ?_)
    · have h := br_F h c_26
      exact wL_isTree_132 bx hP hK hk10 x1 x2 x3 x4 x5 h _ (lv_sub hl [0, 1, 2, 3, 4, 5] rfl)
    · have h := br_T h c_26
      refine lv_iload_n hx hb dL_isTree_29 rfl (lv_at hl 3 rfl) ?_
      refine lv_iload_n hx hb dL_isTree_30 rfl (lv_at hl 1 rfl) ?_
      refine lv_iload hx hb dL_isTree_31 (lv_at hl 5 rfl) ?_
      obtain ⟨r_4, hr_4, h⟩ := bd_ex h
      refine ro_i (va_runS (As := [.int x1, .int x5]) (rest := [.int x3]) ⟨hx, hb, hml, hown, hts⟩ (kL_isIn l x1 x5 r_4 hr_4) (va_cwS 2 hts gL_isTree_L_isIn rfl rfl rfl (by decide +kernel) ⟨by simp only [rmL_isTree, rmL_isIn]; omega, by simp only [rmL_isTree, rmL_isIn]; omega⟩) noS rfl rfl hl.1 rfl (lv_room (Nat.le_of_ble_eq_true rfl)) dL_isTree_33 ⟨Nat.zero_le _, Nat.zero_le _⟩) ?_
      refine lv_if_eq (tgt := 43) hx hb dL_isTree_36 (by decide) (fun c_36 => ?_) (fun c_36 => ?_)
      · have h := br_T h c_36
        refine lv_iconst (v := 0) hx hb dL_isTree_43 (by decide) ?_
        exact wL_isTree_44 hself bx hP hK hk10 x1 x2 x4 x5 x3 0 h _ (lv_sub hl [0, 1, 2, 4, 5] rfl)
      · have h := br_F h c_36
        refine lv_iconst (v := 1) hx hb dL_isTree_39 (by decide) ?_
        refine lv_goto (tgt := 44) hx hb dL_isTree_40 (by decide) ?_
        exact wL_isTree_44 hself bx hP hK hk10 x1 x2 x4 x5 x3 1 h _ (lv_sub hl [0, 1, 2, 4, 5] rfl)

theorem wL_isTree_10 {p : Program} {l : Launch} {e : Env} {s : State} {m : MethodId} {args : Array Value} {below : List Frame} {meth : Method} {c : Code} {G : GT} {q : Nat → Nat} {C : St} {d : Nat} {self : St → Int32 → Int32 → Option (Int32)} (hself : ∀ (x1 : Int32) (x2 : Int32) (r : Int32), self C x1 x2 = some r → Met l yL_isTree wsL_isTree (rmL_isTree d) (va_Pc [.ref (q 20), .int x1, .int x2] (roP G (NW G q C))) (vp_Si (fun v => v = r)) 0 0 (fun _ => False)) {out : Int32} (bx : BX p RL wsL_isTree cL_isTree 6 (some .boolean) s m args meth c) (hP : va_P G.1 vwCl (NW G q C) s.heap) (hK : CK G s) :
    ∀ (n : Nat) (x1 : Int32) (x2 : Int32) (x3 : Int32) (x4 : Int32) (x5 : Int32), pL_isTree_10 self n C x1 x2 x3 x4 x5 = some out → ∀ (ls : Array Slot), lv_has ls 6 [(0, .ref (q 20)), (1, .int x1), (2, .int x2), (3, .int x3), (4, .int x4), (5, .int x5)] → GoI p l e (rmL_isTree (d + 1)) s m args below meth c out (F0 m 10 ls []) := by
  intro n
  induction n with
  | zero => intro _ _ _ _ _ h; cases h
  | succ n ih => exact fun a0 a1 a2 a3 a4 h ls hl => wL_isTree_10_b hself bx hP hK ih a0 a1 a2 a3 a4 h ls hl

set_option maxHeartbeats 4000000 in
set_option maxRecDepth 100000 in
theorem kL_isTree_e (l : Launch) (d : Nat) (G : GT) (q : Nat → Nat) (C : St) {self : St → Int32 → Int32 → Option (Int32)} (hself : ∀ (x1 : Int32) (x2 : Int32) (r : Int32), self C x1 x2 = some r → Met l yL_isTree wsL_isTree (rmL_isTree d) (va_Pc [.ref (q 20), .int x1, .int x2] (roP G (NW G q C))) (vp_Si (fun v => v = r)) 0 0 (fun _ => False)) (x1 : Int32) (x2 : Int32) (r : Int32) (h : pL_isTree_e self C x1 x2 = some r) : Met l yL_isTree wsL_isTree (rmL_isTree (d + 1)) (va_Pc [.ref (q 20), .int x1, .int x2] (roP G (NW G q C))) (vp_Si (fun v => v = r)) 0 0 (fun _ => False) := by
  refine Met.ofW (cc := cL_isTree) (maxL := 6) (ret := (some .boolean)) (by decide) rfl ?_
  intro p e s m args below meth c s₁ B hml hv
  obtain ⟨rfl, hP, hK⟩ := hv
  have bx := bx_of B hml
  obtain ⟨hx, hb, hr, hts, hown, hml, hlocks⟩ := id bx
  have hl := lv_entry ([.ref (q 20), .int x1, .int x2]) (n := 6) (Nat.le_of_ble_eq_true rfl)
  rw [lg_entry_eq]
  generalize (lg_sl ([.ref (q 20), .int x1, .int x2]) ++ List.replicate (6 - (lg_sl ([.ref (q 20), .int x1, .int x2])).length) Slot.unset).toArray = ls at hl ⊢
  have hl : lv_has ls 6 [(0, .ref (q 20)), (1, .int x1), (2, .int x2)] := hl
  show GoI p l e (rmL_isTree (d + 1)) s m _ below meth c r (F0 m 0 ls [])
  unfold pL_isTree_e at h
  refine lv_iconst (v := 0) hx hb dL_isTree_0 (by decide) ?_
  refine lv_istore_n (lv' := [(3, .int 0), (0, .ref (q 20)), (1, .int x1), (2, .int x2)]) hx hb dL_isTree_1 rfl hl (by decide) rfl (fun ls hl => ?_)
  refine lv_iconst (v := 1) hx hb dL_isTree_2 (by decide) ?_
  refine lv_istore (lv' := [(4, .int 1), (3, .int 0), (0, .ref (q 20)), (1, .int x1), (2, .int x2)]) hx hb dL_isTree_3 hl (by decide) rfl (fun ls hl => ?_)
  refine lv_iload_n hx hb dL_isTree_5 rfl (lv_at hl 4 rfl) ?_
  refine lv_iconst (v := 1) hx hb dL_isTree_6 (by decide) ?_
  refine lv_iadd hx hb dL_isTree_7 ?_
  refine lv_topi (fun v_1 ev_1 => ?_)
  have h := ltv_at h v_1 ev_1
  refine lv_istore (lv' := [(5, .int v_1), (4, .int 1), (3, .int 0), (0, .ref (q 20)), (1, .int x1), (2, .int x2)]) hx hb dL_isTree_8 hl (by decide) rfl (fun ls hl => ?_)
  exact wL_isTree_10 hself bx hP hK FU x1 x2 0 1 v_1 h _ (lv_sub hl [3, 4, 5, 2, 1, 0] rfl)

theorem kL_isTree (l : Launch) : ∀ (d : Nat) (G : GT) (q : Nat → Nat) (C : St) (x1 : Int32) (x2 : Int32) (r : Int32), pL_isTree d C x1 x2 = some r → Met l yL_isTree wsL_isTree (rmL_isTree d) (va_Pc [.ref (q 20), .int x1, .int x2] (roP G (NW G q C))) (vp_Si (fun v => v = r)) 0 0 (fun _ => False) := by
  intro d
  induction d with
  | zero => intro G q C _ _ r h; cases h
  | succ d ih => exact fun G q C a0 a1 r h => kL_isTree_e l d G q C (fun b0 b1 r h => ih G q C b0 b1 r h) a0 a1 r h

def rmL_isRight : Room := { frames := 15, cells := 0, slots := 0, locals := 371 }

set_option maxHeartbeats 4000000 in
set_option maxRecDepth 100000 in
theorem wL_isRight_164 {p : Program} {l : Launch} {e : Env} {s : State} {m : MethodId} {args : Array Value} {below : List Frame} {meth : Method} {c : Code} {G : GT} {q : Nat → Nat} {C : St} {out : Int32} (bx : BX p RL wsL_isRight cL_isRight 8 (some .boolean) s m args meth c) (hP : va_P G.1 vwCl (NW G q C) s.heap) (hK : CK G s) {k23 : St → Int32 → Int32 → Int32 → Option (Int32)} (hk23 : ∀ (x1 : Int32) (x2 : Int32) (x3 : Int32), k23 C x1 x2 x3 = some out → ∀ (ls : Array Slot), lv_has ls 8 [(0, .ref (q 20)), (1, .int x1), (2, .int x2), (3, .int x3)] → GoI p l e rmL_isRight s m args below meth c out (F0 m 23 ls [])) (x1 : Int32) (x3 : Int32) (t0 : Int32) (t1 : Int32) (h : pL_isRight_164 k23 C x1 x3 t0 t1 = some out) (ls : Array Slot) (hl : lv_has ls 8 [(0, .ref (q 20)), (1, .int x1), (3, .int x3)]) : GoI p l e rmL_isRight s m args below meth c out (F0 m 164 ls [.int t1, .int t0]) := by
  obtain ⟨hx, hb, hr, hts, hown, hml, hlocks⟩ := id bx
  unfold pL_isRight_164 at h
  refine lv_iand hx hb dL_isRight_164 ?_
  refine lv_topi (fun v_6 ev_6 => ?_)
  have h := ltv_at h v_6 ev_6
  refine lv_istore_n (lv' := [(2, .int v_6), (0, .ref (q 20)), (1, .int x1), (3, .int x3)]) hx hb dL_isRight_165 rfl hl (by decide) rfl (fun ls hl => ?_)
  obtain ⟨v_7, ev_7, h⟩ := ltv_ex h
  refine lv_iinc (v := v_7) (lv' := [(3, .int v_7), (2, .int v_6), (0, .ref (q 20)), (1, .int x1)]) hx hb dL_isRight_166 hl (k := 3) rfl (by rw [ev_7]; rfl) (by decide) rfl (fun ls hl => ?_)
  refine lv_goto (tgt := 23) hx hb dL_isRight_169 (by decide) ?_
  exact hk23 x1 v_6 v_7 h _ (lv_sub hl [2, 3, 1, 0] rfl)

set_option maxHeartbeats 4000000 in
set_option maxRecDepth 100000 in
theorem wL_isRight_159 {p : Program} {l : Launch} {e : Env} {s : State} {m : MethodId} {args : Array Value} {below : List Frame} {meth : Method} {c : Code} {G : GT} {q : Nat → Nat} {C : St} {out : Int32} (bx : BX p RL wsL_isRight cL_isRight 8 (some .boolean) s m args meth c) (hP : va_P G.1 vwCl (NW G q C) s.heap) (hK : CK G s) {k23 : St → Int32 → Int32 → Int32 → Option (Int32)} (hk23 : ∀ (x1 : Int32) (x2 : Int32) (x3 : Int32), k23 C x1 x2 x3 = some out → ∀ (ls : Array Slot), lv_has ls 8 [(0, .ref (q 20)), (1, .int x1), (2, .int x2), (3, .int x3)] → GoI p l e rmL_isRight s m args below meth c out (F0 m 23 ls [])) (x1 : Int32) (x3 : Int32) (t0 : Int32) (h : pL_isRight_159 k23 C x1 x3 t0 = some out) (ls : Array Slot) (hl : lv_has ls 8 [(0, .ref (q 20)), (1, .int x1), (3, .int x3)]) : GoI p l e rmL_isRight s m args below meth c out (F0 m 159 ls [.int t0]) := by
  obtain ⟨hx, hb, hr, hts, hown, hml, hlocks⟩ := id bx
  unfold pL_isRight_159 at h
  refine lv_iconst (v := 1) hx hb dL_isRight_159 (by decide) ?_
  refine lv_goto (tgt := 164) hx hb dL_isRight_160 (by decide) ?_
  exact wL_isRight_164 bx hP hK hk23 x1 x3 t0 1 h _ (lv_sub hl [0, 1, 2] rfl)

set_option maxHeartbeats 4000000 in
set_option maxRecDepth 100000 in
theorem wL_isRight_141 {p : Program} {l : Launch} {e : Env} {s : State} {m : MethodId} {args : Array Value} {below : List Frame} {meth : Method} {c : Code} {G : GT} {q : Nat → Nat} {C : St} {out : Int32} (bx : BX p RL wsL_isRight cL_isRight 8 (some .boolean) s m args meth c) (hP : va_P G.1 vwCl (NW G q C) s.heap) (hK : CK G s) {k23 : St → Int32 → Int32 → Int32 → Option (Int32)} (hk23 : ∀ (x1 : Int32) (x2 : Int32) (x3 : Int32), k23 C x1 x2 x3 = some out → ∀ (ls : Array Slot), lv_has ls 8 [(0, .ref (q 20)), (1, .int x1), (2, .int x2), (3, .int x3)] → GoI p l e rmL_isRight s m args below meth c out (F0 m 23 ls [])) (x1 : Int32) (x2 : Int32) (x3 : Int32) (x4 : Int32) (t0 : Int32) (h : pL_isRight_141 k23 C x1 x2 x3 x4 t0 = some out) (ls : Array Slot) (hl : lv_has ls 8 [(0, .ref (q 20)), (1, .int x1), (2, .int x2), (3, .int x3), (4, .int x4)]) : GoI p l e rmL_isRight s m args below meth c out (F0 m 141 ls [.int t0]) := by
  obtain ⟨hx, hb, hr, hts, hown, hml, hlocks⟩ := id bx
  unfold pL_isRight_141 at h
  refine lv_istore (lv' := [(7, .int t0), (0, .ref (q 20)), (1, .int x1), (2, .int x2), (3, .int x3), (4, .int x4)]) hx hb dL_isRight_141 hl (by decide) rfl (fun ls hl => ?_)
  refine lv_iload_n hx hb dL_isRight_143 rfl (lv_at hl 3 rfl) ?_
  refine lv_aload_n hx hb dL_isRight_144 rfl (lv_at hl 1 rfl) ?_
  refine lv_iload hx hb dL_isRight_145 (lv_at hl 5 rfl) ?_
  refine lv_iconst (v := 4) hx hb dL_isRight_147 (by decide) ?_
  refine lv_iadd hx hb dL_isRight_148 ?_
  obtain ⟨g149, h⟩ := gd_ex h
  refine va_iald (D := G.1) hx hb hK.1 hP 0 0 rfl rfl g149 dL_isRight_149 ?_
  refine lv_iconst (v := 1) hx hb dL_isRight_150 (by decide) ?_
  refine lv_icmp_eq (tgt := 159) hx hb dL_isRight_151 (by decide) (fun c_151 => ?_) (fun c_151 => ?_)
  · have h := br_T h c_151
    exact wL_isRight_159 bx hP hK hk23 x1 x3 x2 h _ (lv_sub hl [1, 2, 4] rfl)
  · have h := br_F h c_151
    refine lv_iload hx hb dL_isRight_154 (lv_at hl 0 rfl) ?_
    refine lv_if_eq (tgt := 163) hx hb dL_isRight_156 (by decide) (fun c_156 => ?_) (fun c_156 => ?_)
    · have h := br_T h c_156
      refine lv_iconst (v := 0) hx hb dL_isRight_163 (by decide) ?_
      exact wL_isRight_164 bx hP hK hk23 x1 x3 x2 0 h _ (lv_sub hl [1, 2, 4] rfl)
    · have h := br_F h c_156
      exact wL_isRight_159 bx hP hK hk23 x1 x3 x2 h _ (lv_sub hl [1, 2, 4] rfl)

set_option maxHeartbeats 4000000 in
set_option maxRecDepth 100000 in
theorem wL_isRight_136 {p : Program} {l : Launch} {e : Env} {s : State} {m : MethodId} {args : Array Value} {below : List Frame} {meth : Method} {c : Code} {G : GT} {q : Nat → Nat} {C : St} {out : Int32} (bx : BX p RL wsL_isRight cL_isRight 8 (some .boolean) s m args meth c) (hP : va_P G.1 vwCl (NW G q C) s.heap) (hK : CK G s) {k23 : St → Int32 → Int32 → Int32 → Option (Int32)} (hk23 : ∀ (x1 : Int32) (x2 : Int32) (x3 : Int32), k23 C x1 x2 x3 = some out → ∀ (ls : Array Slot), lv_has ls 8 [(0, .ref (q 20)), (1, .int x1), (2, .int x2), (3, .int x3)] → GoI p l e rmL_isRight s m args below meth c out (F0 m 23 ls [])) (x1 : Int32) (x2 : Int32) (x3 : Int32) (x4 : Int32) (h : pL_isRight_136 k23 C x1 x2 x3 x4 = some out) (ls : Array Slot) (hl : lv_has ls 8 [(0, .ref (q 20)), (1, .int x1), (2, .int x2), (3, .int x3), (4, .int x4)]) : GoI p l e rmL_isRight s m args below meth c out (F0 m 136 ls []) := by
  obtain ⟨hx, hb, hr, hts, hown, hml, hlocks⟩ := id bx
  unfold pL_isRight_136 at h
  refine lv_iconst (v := 1) hx hb dL_isRight_136 (by decide) ?_
  refine lv_goto (tgt := 141) hx hb dL_isRight_137 (by decide) ?_
  exact wL_isRight_141 bx hP hK hk23 x1 x2 x3 x4 1 h _ (lv_sub hl [0, 1, 2, 3, 4] rfl)

set_option maxHeartbeats 4000000 in
set_option maxRecDepth 100000 in
theorem wL_isRight_105 {p : Program} {l : Launch} {e : Env} {s : State} {m : MethodId} {args : Array Value} {below : List Frame} {meth : Method} {c : Code} {G : GT} {q : Nat → Nat} {C : St} {out : Int32} (bx : BX p RL wsL_isRight cL_isRight 8 (some .boolean) s m args meth c) (hP : va_P G.1 vwCl (NW G q C) s.heap) (hK : CK G s) {k23 : St → Int32 → Int32 → Int32 → Option (Int32)} (hk23 : ∀ (x1 : Int32) (x2 : Int32) (x3 : Int32), k23 C x1 x2 x3 = some out → ∀ (ls : Array Slot), lv_has ls 8 [(0, .ref (q 20)), (1, .int x1), (2, .int x2), (3, .int x3)] → GoI p l e rmL_isRight s m args below meth c out (F0 m 23 ls [])) (x1 : Int32) (x2 : Int32) (x3 : Int32) (x4 : Int32) (h : pL_isRight_105 k23 C x1 x2 x3 x4 = some out) (ls : Array Slot) (hl : lv_has ls 8 [(0, .ref (q 20)), (1, .int x1), (2, .int x2), (3, .int x3), (4, .int x4)]) : GoI p l e rmL_isRight s m args below meth c out (F0 m 105 ls []) := by
  obtain ⟨hx, hb, hr, hts, hown, hml, hlocks⟩ := id bx
  unfold pL_isRight_105 at h
  refine lv_iconst (v := 1) hx hb dL_isRight_105 (by decide) ?_
  refine lv_goto (tgt := 141) hx hb dL_isRight_106 (by decide) ?_
  exact wL_isRight_141 bx hP hK hk23 x1 x2 x3 x4 1 h _ (lv_sub hl [0, 1, 2, 3, 4] rfl)

set_option maxHeartbeats 4000000 in
set_option maxRecDepth 100000 in
theorem wL_isRight_79 {p : Program} {l : Launch} {e : Env} {s : State} {m : MethodId} {args : Array Value} {below : List Frame} {meth : Method} {c : Code} {G : GT} {q : Nat → Nat} {C : St} {out : Int32} (bx : BX p RL wsL_isRight cL_isRight 8 (some .boolean) s m args meth c) (hP : va_P G.1 vwCl (NW G q C) s.heap) (hK : CK G s) {k23 : St → Int32 → Int32 → Int32 → Option (Int32)} (hk23 : ∀ (x1 : Int32) (x2 : Int32) (x3 : Int32), k23 C x1 x2 x3 = some out → ∀ (ls : Array Slot), lv_has ls 8 [(0, .ref (q 20)), (1, .int x1), (2, .int x2), (3, .int x3)] → GoI p l e rmL_isRight s m args below meth c out (F0 m 23 ls [])) (x1 : Int32) (x2 : Int32) (x3 : Int32) (x4 : Int32) (h : pL_isRight_79 k23 C x1 x2 x3 x4 = some out) (ls : Array Slot) (hl : lv_has ls 8 [(0, .ref (q 20)), (1, .int x1), (2, .int x2), (3, .int x3), (4, .int x4)]) : GoI p l e rmL_isRight s m args below meth c out (F0 m 79 ls []) := by
  obtain ⟨hx, hb, hr, hts, hown, hml, hlocks⟩ := id bx
  unfold pL_isRight_79 at h
  refine lv_iconst (v := 1) hx hb dL_isRight_79 (by decide) ?_
  refine lv_goto (tgt := 141) hx hb dL_isRight_80 (by decide) ?_
  exact wL_isRight_141 bx hP hK hk23 x1 x2 x3 x4 1 h _ (lv_sub hl [0, 1, 2, 3, 4] rfl)

set_option maxHeartbeats 4000000 in
set_option maxRecDepth 100000 in
theorem wL_isRight_23_b {p : Program} {l : Launch} {e : Env} {s : State} {m : MethodId} {args : Array Value} {below : List Frame} {meth : Method} {c : Code} {G : GT} {q : Nat → Nat} {C : St} {out : Int32} (bx : BX p RL wsL_isRight cL_isRight 8 (some .boolean) s m args meth c) (hP : va_P G.1 vwCl (NW G q C) s.heap) (hK : CK G s) {k23 : St → Int32 → Int32 → Int32 → Option (Int32)} (hk23 : ∀ (x1 : Int32) (x2 : Int32) (x3 : Int32), k23 C x1 x2 x3 = some out → ∀ (ls : Array Slot), lv_has ls 8 [(0, .ref (q 20)), (1, .int x1), (2, .int x2), (3, .int x3)] → GoI p l e rmL_isRight s m args below meth c out (F0 m 23 ls [])) (x1 : Int32) (x2 : Int32) (x3 : Int32) (h : pL_isRight_23_b k23 C x1 x2 x3 = some out) (ls : Array Slot) (hl : lv_has ls 8 [(0, .ref (q 20)), (1, .int x1), (2, .int x2), (3, .int x3)]) : GoI p l e rmL_isRight s m args below meth c out (F0 m 23 ls []) := by
  obtain ⟨hx, hb, hr, hts, hown, hml, hlocks⟩ := id bx
  unfold pL_isRight_23_b at h
  refine lv_iload_n hx hb dL_isRight_23 rfl (lv_at hl 3 rfl) ?_
  refine lv_aload_n hx hb dL_isRight_24 rfl (lv_at hl 0 rfl) ?_
  refine lv_iconst (v := 1) hx hb dL_isRight_25 (by decide) ?_
  obtain ⟨g26, h⟩ := gd_ex h
  refine va_iald (D := G.1) hx hb hK.1 hP 0 0 rfl rfl g26 dL_isRight_26 ?_
  refine lv_icmp_ge (tgt := 172) hx hb dL_isRight_27 (by decide) (fun c_27 => ?_) (fun c_27 => ?_)
  · have h := br_T h c_27
    refine lv_iload_n hx hb dL_isRight_172 rfl (lv_at hl 2 rfl) ?_
    obtain ⟨g173, h⟩ := gd_ex h
    exact GoI.end hx hb hr hlocks dL_isRight_173 (okZ_n g173) h
  · have h := br_F h c_27
    refine lv_bipush (v := 110) hx hb dL_isRight_30 (by decide) ?_
    refine lv_iconst (v := 5) hx hb dL_isRight_32 (by decide) ?_
    refine lv_iload_n hx hb dL_isRight_33 rfl (lv_at hl 3 rfl) ?_
    refine lv_imul hx hb dL_isRight_34 ?_
    refine lv_iadd hx hb dL_isRight_35 ?_
    refine lv_topi (fun v_3 ev_3 => ?_)
    have h := ltv_at h v_3 ev_3
    refine lv_istore (lv' := [(4, .int v_3), (0, .ref (q 20)), (1, .int x1), (2, .int x2), (3, .int x3)]) hx hb dL_isRight_36 hl (by decide) rfl (fun ls hl => ?_)
    refine lv_iload_n hx hb dL_isRight_38 rfl (lv_at hl 2 rfl) ?_
    refine lv_aload_n hx hb dL_isRight_39 rfl (lv_at hl 1 rfl) ?_
    refine lv_iload hx hb dL_isRight_40 (lv_at hl 0 rfl) ?_
    refine lv_iconst (v := 1) hx hb dL_isRight_42 (by decide) ?_
    refine lv_iadd hx hb dL_isRight_43 ?_
    obtain ⟨g44, h⟩ := gd_ex h
    refine va_iald (D := G.1) hx hb hK.1 hP 0 0 rfl rfl g44 dL_isRight_44 ?_
    obtain ⟨r_4, hr_4, h⟩ := bd_ex h
    refine ro_i (va_runS (As := [.int x1, .int (C.2 14 (v_3 + 1).toNatClampNeg)]) (rest := []) ⟨hx, hb, hml, hown, hts⟩ (kL_isIn l x1 (C.2 14 (v_3 + 1).toNatClampNeg) r_4 hr_4) (va_cwS 2 hts gL_isRight_L_isIn rfl rfl rfl (by decide +kernel) ⟨Nat.le_of_ble_eq_true rfl, Nat.le_of_ble_eq_true rfl⟩) noS rfl rfl hl.1 rfl (lv_room (Nat.le_of_ble_eq_true rfl)) dL_isRight_45 ⟨Nat.zero_le _, Nat.zero_le _⟩) ?_
    refine lv_istore (lv' := [(5, .int r_4), (4, .int v_3), (0, .ref (q 20)), (1, .int x1), (2, .int x2), (3, .int x3)]) hx hb dL_isRight_48 hl (by decide) rfl (fun ls hl => ?_)
    refine lv_iload_n hx hb dL_isRight_50 rfl (lv_at hl 3 rfl) ?_
    refine lv_aload_n hx hb dL_isRight_51 rfl (lv_at hl 2 rfl) ?_
    refine lv_iload hx hb dL_isRight_52 (lv_at hl 1 rfl) ?_
    refine lv_iconst (v := 2) hx hb dL_isRight_54 (by decide) ?_
    refine lv_iadd hx hb dL_isRight_55 ?_
    obtain ⟨g56, h⟩ := gd_ex h
    refine va_iald (D := G.1) hx hb hK.1 hP 0 0 rfl rfl g56 dL_isRight_56 ?_
    obtain ⟨r_5, hr_5, h⟩ := bd_ex h
    refine ro_i (va_runS (As := [.int x1, .int (C.2 14 (v_3 + 2).toNatClampNeg)]) (rest := []) ⟨hx, hb, hml, hown, hts⟩ (kL_isIn l x1 (C.2 14 (v_3 + 2).toNatClampNeg) r_5 hr_5) (va_cwS 2 hts gL_isRight_L_isIn rfl rfl rfl (by decide +kernel) ⟨Nat.le_of_ble_eq_true rfl, Nat.le_of_ble_eq_true rfl⟩) noS rfl rfl hl.1 rfl (lv_room (Nat.le_of_ble_eq_true rfl)) dL_isRight_57 ⟨Nat.zero_le _, Nat.zero_le _⟩) ?_
    refine lv_istore (lv' := [(6, .int r_5), (5, .int r_4), (4, .int v_3), (0, .ref (q 20)), (1, .int x1), (2, .int x2), (3, .int x3)]) hx hb dL_isRight_60 hl (by decide) rfl (fun ls hl => ?_)
    refine lv_aload_n hx hb dL_isRight_62 rfl (lv_at hl 3 rfl) ?_
    refine lv_iload hx hb dL_isRight_63 (lv_at hl 2 rfl) ?_
    obtain ⟨g65, h⟩ := gd_ex h
    refine va_iald (D := G.1) hx hb hK.1 hP 0 0 rfl rfl g65 dL_isRight_65 ?_
    refine lv_if_ne (tgt := 87) hx hb dL_isRight_66 (by decide) (fun c_66 => ?_) (fun c_66 => ?_)
    · have h := br_F h c_66
      refine lv_aload_n hx hb dL_isRight_87 rfl (lv_at hl 3 rfl) ?_
      refine lv_iload hx hb dL_isRight_88 (lv_at hl 2 rfl) ?_
      obtain ⟨g90, h⟩ := gd_ex h
      refine va_iald (D := G.1) hx hb hK.1 hP 0 0 rfl rfl g90 dL_isRight_90 ?_
      refine lv_iconst (v := 1) hx hb dL_isRight_91 (by decide) ?_
      refine lv_icmp_ne (tgt := 113) hx hb dL_isRight_92 (by decide) (fun c_92 => ?_) (fun c_92 => ?_)
      · have h := br_F h c_92
        refine lv_iload hx hb dL_isRight_113 (lv_at hl 1 rfl) ?_
        refine lv_if_ne (tgt := 136) hx hb dL_isRight_115 (by decide) (fun c_115 => ?_) (fun c_115 => ?_)
        · have h := br_F h c_115
          exact wL_isRight_136 bx hP hK hk23 x1 x2 x3 v_3 h _ (lv_sub hl [3, 4, 5, 6, 2] rfl)
        · have h := br_T h c_115
          refine lv_iload hx hb dL_isRight_118 (lv_at hl 0 rfl) ?_
          refine lv_if_ne (tgt := 136) hx hb dL_isRight_120 (by decide) (fun c_120 => ?_) (fun c_120 => ?_)
          · have h := br_F h c_120
            exact wL_isRight_136 bx hP hK hk23 x1 x2 x3 v_3 h _ (lv_sub hl [3, 4, 5, 6, 2] rfl)
          · have h := br_T h c_120
            refine lv_iload_n hx hb dL_isRight_123 rfl (lv_at hl 4 rfl) ?_
            refine lv_aload_n hx hb dL_isRight_124 rfl (lv_at hl 3 rfl) ?_
            refine lv_iload hx hb dL_isRight_125 (lv_at hl 2 rfl) ?_
            refine lv_iconst (v := 3) hx hb dL_isRight_127 (by decide) ?_
            refine lv_iadd hx hb dL_isRight_128 ?_
            obtain ⟨g129, h⟩ := gd_ex h
            refine va_iald (D := G.1) hx hb hK.1 hP 0 0 rfl rfl g129 dL_isRight_129 ?_
            obtain ⟨r_8, hr_8, h⟩ := bd_ex h
            refine ro_i (va_runS (As := [.int x1, .int (C.2 14 (v_3 + 3).toNatClampNeg)]) (rest := []) ⟨hx, hb, hml, hown, hts⟩ (kL_isIn l x1 (C.2 14 (v_3 + 3).toNatClampNeg) r_8 hr_8) (va_cwS 2 hts gL_isRight_L_isIn rfl rfl rfl (by decide +kernel) ⟨Nat.le_of_ble_eq_true rfl, Nat.le_of_ble_eq_true rfl⟩) noS rfl rfl hl.1 rfl (lv_room (Nat.le_of_ble_eq_true rfl)) dL_isRight_130 ⟨Nat.zero_le _, Nat.zero_le _⟩) ?_
            refine lv_if_eq (tgt := 140) hx hb dL_isRight_133 (by decide) (fun c_133 => ?_) (fun c_133 => ?_)
            · have h := br_T h c_133
              refine lv_iconst (v := 0) hx hb dL_isRight_140 (by decide) ?_
              exact wL_isRight_141 bx hP hK hk23 x1 x2 x3 v_3 0 h _ (lv_sub hl [3, 4, 5, 6, 2] rfl)
            · have h := br_F h c_133
              exact wL_isRight_136 bx hP hK hk23 x1 x2 x3 v_3 h _ (lv_sub hl [3, 4, 5, 6, 2] rfl)
      · have h := br_T h c_92
        refine lv_iload hx hb dL_isRight_95 (lv_at hl 1 rfl) ?_
        refine lv_if_eq (tgt := 105) hx hb dL_isRight_97 (by decide) (fun c_97 => ?_) (fun c_97 => ?_)
        · have h := br_T h c_97
          exact wL_isRight_105 bx hP hK hk23 x1 x2 x3 v_3 h _ (lv_sub hl [3, 4, 5, 6, 2] rfl)
        · have h := br_F h c_97
          refine lv_iload hx hb dL_isRight_100 (lv_at hl 0 rfl) ?_
          refine lv_if_ne (tgt := 109) hx hb dL_isRight_102 (by decide) (fun c_102 => ?_) (fun c_102 => ?_)
          · have h := br_F h c_102
            refine lv_iconst (v := 0) hx hb dL_isRight_109 (by decide) ?_
            refine lv_goto (tgt := 141) hx hb dL_isRight_110 (by decide) ?_
            exact wL_isRight_141 bx hP hK hk23 x1 x2 x3 v_3 0 h _ (lv_sub hl [3, 4, 5, 6, 2] rfl)
          · have h := br_T h c_102
            exact wL_isRight_105 bx hP hK hk23 x1 x2 x3 v_3 h _ (lv_sub hl [3, 4, 5, 6, 2] rfl)
    · have h := br_T h c_66
      refine lv_iload hx hb dL_isRight_69 (lv_at hl 1 rfl) ?_
      refine lv_if_eq (tgt := 79) hx hb dL_isRight_71 (by decide) (fun c_71 => ?_) (fun c_71 => ?_)
      · have h := br_T h c_71
        exact wL_isRight_79 bx hP hK hk23 x1 x2 x3 v_3 h _ (lv_sub hl [3, 4, 5, 6, 2] rfl)
      · have h := br_F h c_71
        refine lv_iload hx hb dL_isRight_74 (lv_at hl 0 rfl) ?_
        refine lv_if_eq (tgt := 83) hx hb dL_isRight_76 (by decide) (fun c_76 => ?_) (fun c_76 => ?_)
        · have h := br_T h c_76
          refine lv_iconst (v := 0) hx hb dL_isRight_83 (by decide) ?_
          refine lv_goto (tgt := 141) hx hb dL_isRight_84 (by decide) ?_
          exact wL_isRight_141 bx hP hK hk23 x1 x2 x3 v_3 0 h _ (lv_sub hl [3, 4, 5, 6, 2] rfl)
        · have h := br_F h c_76
          exact wL_isRight_79 bx hP hK hk23 x1 x2 x3 v_3 h _ (lv_sub hl [3, 4, 5, 6, 2] rfl)

theorem wL_isRight_23 {p : Program} {l : Launch} {e : Env} {s : State} {m : MethodId} {args : Array Value} {below : List Frame} {meth : Method} {c : Code} {G : GT} {q : Nat → Nat} {C : St} {out : Int32} (bx : BX p RL wsL_isRight cL_isRight 8 (some .boolean) s m args meth c) (hP : va_P G.1 vwCl (NW G q C) s.heap) (hK : CK G s) :
    ∀ (n : Nat) (x1 : Int32) (x2 : Int32) (x3 : Int32), pL_isRight_23 n C x1 x2 x3 = some out → ∀ (ls : Array Slot), lv_has ls 8 [(0, .ref (q 20)), (1, .int x1), (2, .int x2), (3, .int x3)] → GoI p l e rmL_isRight s m args below meth c out (F0 m 23 ls []) := by
  intro n
  induction n with
  | zero => intro _ _ _ h; cases h
  | succ n ih => exact fun a0 a1 a2 h ls hl => wL_isRight_23_b bx hP hK ih a0 a1 a2 h ls hl

set_option maxHeartbeats 4000000 in
set_option maxRecDepth 100000 in
theorem kL_isRight (l : Launch) (G : GT) (q : Nat → Nat) (C : St) (x1 : Int32) (r : Int32) (h : pL_isRight C x1 = some r) : Met l yL_isRight wsL_isRight rmL_isRight (va_Pc [.ref (q 20), .int x1] (roP G (NW G q C))) (vp_Si (fun v => v = r)) 0 0 (fun _ => False) := by
  refine Met.ofW (cc := cL_isRight) (maxL := 8) (ret := (some .boolean)) (by decide) rfl ?_
  intro p e s m args below meth c s₁ B hml hv
  obtain ⟨rfl, hP, hK⟩ := hv
  have bx := bx_of B hml
  obtain ⟨hx, hb, hr, hts, hown, hml, hlocks⟩ := id bx
  have hl := lv_entry ([.ref (q 20), .int x1]) (n := 8) (Nat.le_of_ble_eq_true rfl)
  rw [lg_entry_eq]
  generalize (lg_sl ([.ref (q 20), .int x1]) ++ List.replicate (8 - (lg_sl ([.ref (q 20), .int x1])).length) Slot.unset).toArray = ls at hl ⊢
  have hl : lv_has ls 8 [(0, .ref (q 20)), (1, .int x1)] := hl
  show GoI p l e rmL_isRight s m _ below meth c r (F0 m 0 ls [])
  unfold pL_isRight at h
  refine lv_iload_n hx hb dL_isRight_0 rfl (lv_at hl 1 rfl) ?_
  refine lv_iconst (v := 0) hx hb dL_isRight_1 (by decide) ?_
  obtain ⟨r_1, hr_1, h⟩ := bd_ex h
  refine ro_i (va_runS (As := [.int x1, .int 0]) (rest := []) ⟨hx, hb, hml, hown, hts⟩ (kL_isIn l x1 0 r_1 hr_1) (va_cwS 2 hts gL_isRight_L_isIn rfl rfl rfl (by decide +kernel) ⟨Nat.le_of_ble_eq_true rfl, Nat.le_of_ble_eq_true rfl⟩) noS rfl rfl hl.1 rfl (lv_room (Nat.le_of_ble_eq_true rfl)) dL_isRight_2 ⟨Nat.zero_le _, Nat.zero_le _⟩) ?_
  refine lv_if_eq (tgt := 17) hx hb dL_isRight_5 (by decide) (fun c_5 => ?_) (fun c_5 => ?_)
  · have h := br_T h c_5
    refine lv_iconst (v := 0) hx hb dL_isRight_17 (by decide) ?_
    exact GoI.end hx hb hr hlocks dL_isRight_18 rfl h
  · have h := br_F h c_5
    refine lv_aload_n hx hb dL_isRight_8 rfl (lv_at hl 0 rfl) ?_
    refine lv_iload_n hx hb dL_isRight_9 rfl (lv_at hl 1 rfl) ?_
    refine lv_iconst (v := 0) hx hb dL_isRight_10 (by decide) ?_
    obtain ⟨r_2, hr_2, h⟩ := bd_ex h
    refine ro_i (va_runS (As := [.ref (q 20), .int x1, .int 0]) (rest := []) ⟨hx, hb, hml, hown, hts⟩ (kL_isTree l RU G q C x1 0 r_2 hr_2) (va_cwS 3 hts gL_isRight_L_isTree rfl rfl rfl (by decide +kernel) ⟨Nat.le_of_ble_eq_true rfl, Nat.le_of_ble_eq_true rfl⟩) (roS hP hK) rfl rfl hl.1 rfl (lv_room (Nat.le_of_ble_eq_true rfl)) dL_isRight_11 ⟨Nat.zero_le _, Nat.zero_le _⟩) ?_
    refine lv_if_ne (tgt := 19) hx hb dL_isRight_14 (by decide) (fun c_14 => ?_) (fun c_14 => ?_)
    · have h := br_F h c_14
      refine lv_iconst (v := 1) hx hb dL_isRight_19 (by decide) ?_
      refine lv_istore_n (lv' := [(2, .int 1), (0, .ref (q 20)), (1, .int x1)]) hx hb dL_isRight_20 rfl hl (by decide) rfl (fun ls hl => ?_)
      refine lv_iconst (v := 0) hx hb dL_isRight_21 (by decide) ?_
      refine lv_istore_n (lv' := [(3, .int 0), (2, .int 1), (0, .ref (q 20)), (1, .int x1)]) hx hb dL_isRight_22 rfl hl (by decide) rfl (fun ls hl => ?_)
      exact wL_isRight_23 bx hP hK FU x1 1 0 h _ (lv_sub hl [2, 3, 1, 0] rfl)
    · have h := br_T h c_14
      refine lv_iconst (v := 0) hx hb dL_isRight_17 (by decide) ?_
      exact GoI.end hx hb hr hlocks dL_isRight_18 rfl h

def rmL_completes : Room := { frames := 16, cells := 0, slots := 0, locals := 398 }

set_option maxHeartbeats 4000000 in
set_option maxRecDepth 100000 in
theorem kL_completes (l : Launch) (G : GT) (q : Nat → Nat) (C : St) (x1 : Int32) (r : Int32) (h : pL_completes C x1 = some r) : Met l yL_completes wsL_completes rmL_completes (va_Pc [.ref (q 20), .int x1] (roP G (NW G q C))) (vp_Si (fun v => v = r)) 0 0 (fun _ => False) := by
  refine Met.ofW (cc := cL_completes) (maxL := 2) (ret := (some .boolean)) (by decide) rfl ?_
  intro p e s m args below meth c s₁ B hml hv
  obtain ⟨rfl, hP, hK⟩ := hv
  have bx := bx_of B hml
  obtain ⟨hx, hb, hr, hts, hown, hml, hlocks⟩ := id bx
  have hl := lv_entry ([.ref (q 20), .int x1]) (n := 2) (Nat.le_of_ble_eq_true rfl)
  rw [lg_entry_eq]
  generalize (lg_sl ([.ref (q 20), .int x1]) ++ List.replicate (2 - (lg_sl ([.ref (q 20), .int x1])).length) Slot.unset).toArray = ls at hl ⊢
  have hl : lv_has ls 2 [(0, .ref (q 20)), (1, .int x1)] := hl
  show GoI p l e rmL_completes s m _ below meth c r (F0 m 0 ls [])
  unfold pL_completes at h
  refine lv_iload_n hx hb dL_completes_0 rfl (lv_at hl 1 rfl) ?_
  refine lv_aload_n hx hb dL_completes_1 rfl (lv_at hl 0 rfl) ?_
  refine lv_iconst (v := 4) hx hb dL_completes_2 (by decide) ?_
  obtain ⟨g3, h⟩ := gd_ex h
  refine va_iald (D := G.1) hx hb hK.1 hP 0 0 rfl rfl g3 dL_completes_3 ?_
  refine lv_iand hx hb dL_completes_4 ?_
  refine lv_if_ne (tgt := 30) hx hb dL_completes_5 (by decide) (fun c_5 => ?_) (fun c_5 => ?_)
  · have h := br_F h c_5
    refine lv_iconst (v := 0) hx hb dL_completes_30 (by decide) ?_
    exact GoI.end hx hb hr hlocks dL_completes_31 rfl h
  · have h := br_T h c_5
    refine lv_aload_n hx hb dL_completes_8 rfl (lv_at hl 0 rfl) ?_
    refine lv_iconst (v := 3) hx hb dL_completes_9 (by decide) ?_
    obtain ⟨g10, h⟩ := gd_ex h
    refine va_iald (D := G.1) hx hb hK.1 hP 0 0 rfl rfl g10 dL_completes_10 ?_
    refine lv_iload_n hx hb dL_completes_11 rfl (lv_at hl 1 rfl) ?_
    refine lv_iconst (v := (-1)) hx hb dL_completes_12 (by decide) ?_
    refine lv_ixor hx hb dL_completes_13 ?_
    refine lv_iand hx hb dL_completes_14 ?_
    refine lv_if_ne (tgt := 30) hx hb dL_completes_15 (by decide) (fun c_15 => ?_) (fun c_15 => ?_)
    · have h := br_F h c_15
      refine lv_iconst (v := 0) hx hb dL_completes_30 (by decide) ?_
      exact GoI.end hx hb hr hlocks dL_completes_31 rfl h
    · have h := br_T h c_15
      refine lv_aload_n hx hb dL_completes_18 rfl (lv_at hl 0 rfl) ?_
      refine lv_iload_n hx hb dL_completes_19 rfl (lv_at hl 1 rfl) ?_
      obtain ⟨r_1, hr_1, h⟩ := bd_ex h
      refine ro_i (va_runS (As := [.ref (q 20), .int x1]) (rest := []) ⟨hx, hb, hml, hown, hts⟩ (kL_isRight l G q C x1 r_1 hr_1) (va_cwS 2 hts gL_completes_L_isRight rfl rfl rfl (by decide +kernel) ⟨Nat.le_of_ble_eq_true rfl, Nat.le_of_ble_eq_true rfl⟩) (roS hP hK) rfl rfl hl.1 rfl (lv_room (Nat.le_of_ble_eq_true rfl)) dL_completes_20 ⟨Nat.zero_le _, Nat.zero_le _⟩) ?_
      refine lv_if_eq (tgt := 30) hx hb dL_completes_23 (by decide) (fun c_23 => ?_) (fun c_23 => ?_)
      · have h := br_T h c_23
        refine lv_iconst (v := 0) hx hb dL_completes_30 (by decide) ?_
        exact GoI.end hx hb hr hlocks dL_completes_31 rfl h
      · have h := br_F h c_23
        refine lv_iconst (v := 1) hx hb dL_completes_26 (by decide) ?_
        refine lv_goto (tgt := 31) hx hb dL_completes_27 (by decide) ?_
        exact GoI.end hx hb hr hlocks dL_completes_31 rfl h

def rmL_isPossible : Room := { frames := 17, cells := 0, slots := 0, locals := 419 }

set_option maxHeartbeats 4000000 in
set_option maxRecDepth 100000 in
theorem wL_isPossible_8_b {p : Program} {l : Launch} {e : Env} {s : State} {m : MethodId} {args : Array Value} {below : List Frame} {meth : Method} {c : Code} {G : GT} {q : Nat → Nat} {C : St} {out : Int32} (bx : BX p RL wsL_isPossible cL_isPossible 2 (some .boolean) s m args meth c) (hP : va_P G.1 vwCl (NW G q C) s.heap) (hK : CK G s) {k8 : St → Int32 → Option (Int32)} (hk8 : ∀ (x1 : Int32), k8 C x1 = some out → ∀ (ls : Array Slot), lv_has ls 2 [(0, .ref (q 20)), (1, .int x1)] → GoI p l e rmL_isPossible s m args below meth c out (F0 m 8 ls [])) (x1 : Int32) (h : pL_isPossible_8_b k8 C x1 = some out) (ls : Array Slot) (hl : lv_has ls 2 [(0, .ref (q 20)), (1, .int x1)]) : GoI p l e rmL_isPossible s m args below meth c out (F0 m 8 ls []) := by
  obtain ⟨hx, hb, hr, hts, hown, hml, hlocks⟩ := id bx
  unfold pL_isPossible_8_b at h
  refine lv_iload_n hx hb dL_isPossible_8 rfl (lv_at hl 1 rfl) ?_
  refine lv_if_le (tgt := 28) hx hb dL_isPossible_9 (by decide) (fun c_9 => ?_) (fun c_9 => ?_)
  · have h := br_T h c_9
    refine lv_iconst (v := 0) hx hb dL_isPossible_28 (by decide) ?_
    exact GoI.end hx hb hr hlocks dL_isPossible_29 rfl h
  · have h := br_F h c_9
    refine lv_aload_n hx hb dL_isPossible_12 rfl (lv_at hl 0 rfl) ?_
    refine lv_iload_n hx hb dL_isPossible_13 rfl (lv_at hl 1 rfl) ?_
    obtain ⟨r_2, hr_2, h⟩ := bd_ex h
    refine ro_i (va_runS (As := [.ref (q 20), .int x1]) (rest := []) ⟨hx, hb, hml, hown, hts⟩ (kL_completes l G q C x1 r_2 hr_2) (va_cwS 2 hts gL_isPossible_L_completes rfl rfl rfl (by decide +kernel) ⟨Nat.le_of_ble_eq_true rfl, Nat.le_of_ble_eq_true rfl⟩) (roS hP hK) rfl rfl hl.1 rfl (lv_room (Nat.le_of_ble_eq_true rfl)) dL_isPossible_14 ⟨Nat.zero_le _, Nat.zero_le _⟩) ?_
    refine lv_if_eq (tgt := 22) hx hb dL_isPossible_17 (by decide) (fun c_17 => ?_) (fun c_17 => ?_)
    · have h := br_T h c_17
      obtain ⟨v_3, ev_3, h⟩ := ltv_ex h
      refine lv_iinc (v := v_3) (lv' := [(1, .int v_3), (0, .ref (q 20))]) hx hb dL_isPossible_22 hl (k := 1) rfl (by rw [ev_3]; rfl) (by decide) rfl (fun ls hl => ?_)
      refine lv_goto (tgt := 8) hx hb dL_isPossible_25 (by decide) ?_
      exact hk8 v_3 h _ (lv_sub hl [1, 0] rfl)
    · have h := br_F h c_17
      refine lv_iconst (v := 1) hx hb dL_isPossible_20 (by decide) ?_
      exact GoI.end hx hb hr hlocks dL_isPossible_21 rfl h

theorem wL_isPossible_8 {p : Program} {l : Launch} {e : Env} {s : State} {m : MethodId} {args : Array Value} {below : List Frame} {meth : Method} {c : Code} {G : GT} {q : Nat → Nat} {C : St} {out : Int32} (bx : BX p RL wsL_isPossible cL_isPossible 2 (some .boolean) s m args meth c) (hP : va_P G.1 vwCl (NW G q C) s.heap) (hK : CK G s) :
    ∀ (n : Nat) (x1 : Int32), pL_isPossible_8 n C x1 = some out → ∀ (ls : Array Slot), lv_has ls 2 [(0, .ref (q 20)), (1, .int x1)] → GoI p l e rmL_isPossible s m args below meth c out (F0 m 8 ls []) := by
  intro n
  induction n with
  | zero => intro _ h; cases h
  | succ n ih => exact fun a0 h ls hl => wL_isPossible_8_b bx hP hK ih a0 h ls hl

set_option maxHeartbeats 4000000 in
set_option maxRecDepth 100000 in
theorem kL_isPossible (l : Launch) (G : GT) (q : Nat → Nat) (C : St) (r : Int32) (h : pL_isPossible C = some r) : Met l yL_isPossible wsL_isPossible rmL_isPossible (va_Pc [.ref (q 20)] (roP G (NW G q C))) (vp_Si (fun v => v = r)) 0 0 (fun _ => False) := by
  refine Met.ofW (cc := cL_isPossible) (maxL := 2) (ret := (some .boolean)) (by decide) rfl ?_
  intro p e s m args below meth c s₁ B hml hv
  obtain ⟨rfl, hP, hK⟩ := hv
  have bx := bx_of B hml
  obtain ⟨hx, hb, hr, hts, hown, hml, hlocks⟩ := id bx
  have hl := lv_entry ([.ref (q 20)]) (n := 2) (Nat.le_of_ble_eq_true rfl)
  rw [lg_entry_eq]
  generalize (lg_sl ([.ref (q 20)]) ++ List.replicate (2 - (lg_sl ([.ref (q 20)])).length) Slot.unset).toArray = ls at hl ⊢
  have hl : lv_has ls 2 [(0, .ref (q 20))] := hl
  show GoI p l e rmL_isPossible s m _ below meth c r (F0 m 0 ls [])
  unfold pL_isPossible at h
  refine lv_iconst (v := 1) hx hb dL_isPossible_0 (by decide) ?_
  refine lv_aload_n hx hb dL_isPossible_1 rfl (lv_at hl 0 rfl) ?_
  refine lv_iconst (v := 0) hx hb dL_isPossible_2 (by decide) ?_
  obtain ⟨g3, h⟩ := gd_ex h
  refine va_iald (D := G.1) hx hb hK.1 hP 0 0 rfl rfl g3 dL_isPossible_3 ?_
  refine lv_ishl hx hb dL_isPossible_4 ?_
  refine lv_iconst (v := 1) hx hb dL_isPossible_5 (by decide) ?_
  refine lv_isub hx hb dL_isPossible_6 ?_
  refine lv_topi (fun v_1 ev_1 => ?_)
  have h := ltv_at h v_1 ev_1
  refine lv_istore_n (lv' := [(1, .int v_1), (0, .ref (q 20))]) hx hb dL_isPossible_7 rfl hl (by decide) rfl (fun ls hl => ?_)
  exact wL_isPossible_8 bx hP hK FU v_1 h _ (lv_sub hl [1, 0] rfl)
