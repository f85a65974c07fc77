def rmX7_isThrown : Room := { frames := 0, cells := 0, slots := 0, locals := 0 }

theorem in_wsX7_isThrown_X7 : ∀ w ∈ u_ws RX7 TX7 24, w ∈ wsX7_isThrown := by decide +kernel

set_option maxHeartbeats 4000000 in
set_option maxRecDepth 100000 in
theorem wX7_isThrown_10 {p : Program} {l : Launch} {e : Env} {s : State} {m : MethodId} {args : Array Value} {below : List Frame} {meth : Method} {c : Code} {G : GT} {q : Nat → Nat} {A : Nat → Prop} {out : Int32 × St} (bx : BX p RX7 wsX7_isThrown cX7_isThrown 3 (some .boolean) s m args meth c) (hA : ∀ q : Nat, s.heap.size ≤ q → A q) (hK : CK G s) (C : St) (x1 : Int32) (t1 : Int32) (h : pX7_isThrown_10 C x1 t1 = some out) {H : Heap} {locs : List Loc} (hP : va_P G.1 vwCl (MW G q C) H) (hD : va_D A (MW G q C)) (hS : va_S A s.heap H locs) (ls : Array Slot) (hl : lv_has ls 3 [(1, .int x1)]) : W p l e rmX7_isThrown s m args below meth c H locs 0 0 (MQi G (MW G q) A s args below out) (F0 m 10 ls [.int t1, .ref (q 0)]) := by
  obtain ⟨hx, hb, hr, hts, hown, hml, hlocks⟩ := id bx
  unfold pX7_isThrown_10 at h
  refine va_put (D := G.1) (ci := 8) (v := .int t1) (ty := .int) (C := RX7) (T := TX7) (N := 24) hx hb hts in_wsX7_isThrown_X7 tyX7 tyX7_ok nmX7 hown hK.1 hP hD hS 0 rfl rfl 23 (by decide) (w_mem hts 1 rfl) (fun _ h9 => h9) rfl (by decide +kernel) rfl rfl (Nat.le_of_ble_eq_true rfl) dX7_isThrown_10 (fun H locs hP hD hS => ?_)
  have hP : va_P G.1 vwCl (MW G q (sS C 7 t1)) H := hP
  have hD : va_D A (MW G q (sS C 7 t1)) := hD
  obtain ⟨C_1, eC_1, h⟩ := ltv_ex h
  rw [← eC_1] at hP hD
  refine lv_iload_n hx hb dX7_isThrown_13 rfl (lv_at hl 0 rfl) ?_
  obtain ⟨g14, h⟩ := gd_ex h
  exact MQi.end hx hb hr hlocks hP hS dX7_isThrown_14 (okZ_n g14) h

set_option maxHeartbeats 4000000 in
set_option maxRecDepth 100000 in
theorem kX7_isThrown (l : Launch) (G : GT) (q : Nat → Nat) (C : St) (sz : Nat) (x1 : Int32) (x2 : Int32) (r : Int32 × St) (h : pX7_isThrown C x1 x2 = some r) : Met l yX7_isThrown wsX7_isThrown rmX7_isThrown (va_Pc [.ref (q 0), .int x1, .int x2] (wrP G (MW G q C) sz)) (va_Qi (fun v u => (v, u) = r) (fun u t => va_P G.1 vwCl (MW G q u) t.heap) (va_A (MW G q C) sz)) 0 0 (va_A (MW G q C) sz) := by
  refine Met.ofW (cc := cX7_isThrown) (maxL := 3) (ret := (some .boolean)) (by decide) rfl ?_
  intro p e s m args below meth c s₁ B hml hv
  obtain ⟨rfl, hsz, hP, hK, hD0⟩ := hv
  have bx := bx_of B hml
  subst hsz
  have hD := hD0.self (sz := s.heap.size)
  generalize hAe : va_A (MW G q C) s.heap.size = A at hD ⊢
  have hA : ∀ q : Nat, s.heap.size ≤ q → A q := fun q h => by rw [← hAe]; exact Or.inr h
  have hS : va_S A s.heap s.heap [] := va_S.rf
  obtain ⟨hx, hb, hr, hts, hown, hml, hlocks⟩ := id bx
  have hl := lv_entry ([.ref (q 0), .int x1, .int x2]) (n := 3) (Nat.le_of_ble_eq_true rfl)
  rw [lg_entry_eq]
  generalize (lg_sl ([.ref (q 0), .int x1, .int x2]) ++ List.replicate (3 - (lg_sl ([.ref (q 0), .int x1, .int x2])).length) Slot.unset).toArray = ls at hl ⊢
  have hl : lv_has ls 3 [(0, .ref (q 0)), (1, .int x1), (2, .int x2)] := hl
  show W p l e rmX7_isThrown s m _ below meth c s.heap [] 0 0 (MQi G (MW G q) A s _ below r) (F0 m 0 ls [])
  unfold pX7_isThrown at h
  refine lv_aload_n hx hb dX7_isThrown_0 rfl (lv_at hl 0 rfl) ?_
  refine lv_iload_n hx hb dX7_isThrown_1 rfl (lv_at hl 1 rfl) ?_
  refine lv_if_eq (tgt := 9) hx hb dX7_isThrown_2 (by decide) (fun c_2 => ?_) (fun c_2 => ?_)
  · have h := br_T h c_2
    refine lv_iconst (v := 0) hx hb dX7_isThrown_9 (by decide) ?_
    exact wX7_isThrown_10 bx hA hK C x1 0 h hP hD hS _ (lv_sub hl [1] rfl)
  · have h := br_F h c_2
    refine lv_iload_n hx hb dX7_isThrown_5 rfl (lv_at hl 2 rfl) ?_
    refine lv_goto (tgt := 10) hx hb dX7_isThrown_6 (by decide) ?_
    exact wX7_isThrown_10 bx hA hK C x1 x2 h hP hD hS _ (lv_sub hl [1] rfl)

def rmX7_becomes : Room := { frames := 0, cells := 0, slots := 0, locals := 0 }

theorem in_wsX7_becomes_X7 : ∀ w ∈ u_ws RX7 TX7 24, w ∈ wsX7_becomes := by decide +kernel

set_option maxHeartbeats 4000000 in
set_option maxRecDepth 100000 in
theorem wX7_becomes_36 {p : Program} {l : Launch} {e : Env} {s : State} {m : MethodId} {args : Array Value} {below : List Frame} {meth : Method} {c : Code} {G : GT} {q : Nat → Nat} {A : Nat → Prop} {out : Int32 × St} (bx : BX p RX7 wsX7_becomes cX7_becomes 4 (some .boolean) s m args meth c) (hA : ∀ q : Nat, s.heap.size ≤ q → A q) (hK : CK G s) (C : St) (x1 : Int32) (x3 : Int32) (t1 : Int32) (t2 : Int32) (h : pX7_becomes_36 C x1 x3 t1 t2 = some out) {H : Heap} {locs : List Loc} (hP : va_P G.1 vwCl (MW G q C) H) (hD : va_D A (MW G q C)) (hS : va_S A s.heap H locs) (ls : Array Slot) (hl : lv_has ls 4 [(0, .ref (q 0)), (1, .int x1), (3, .int x3)]) : W p l e rmX7_becomes s m args below meth c H locs 0 0 (MQi G (MW G q) A s args below out) (F0 m 36 ls [.int t2, .int t1, .ref (q 0)]) := by
  obtain ⟨hx, hb, hr, hts, hown, hml, hlocks⟩ := id bx
  unfold pX7_becomes_36 at h
  refine lv_ior hx hb dX7_becomes_36 ?_
  refine va_put (D := G.1) (ci := 8) (v := .int (t1 ||| t2)) (ty := .int) (C := RX7) (T := TX7) (N := 24) hx hb hts in_wsX7_becomes_X7 tyX7 tyX7_ok nmX7 hown hK.1 hP hD hS 0 rfl rfl 22 (by decide) (w_mem hts 2 rfl) (fun _ h9 => h9) rfl (by decide +kernel) rfl rfl (Nat.le_of_ble_eq_true rfl) dX7_becomes_37 (fun H locs hP hD hS => ?_)
  have hP : va_P G.1 vwCl (MW G q (sS C 6 (t1 ||| t2))) H := hP
  have hD : va_D A (MW G q (sS C 6 (t1 ||| t2))) := hD
  obtain ⟨C_2, eC_2, h⟩ := ltv_ex h
  rw [← eC_2] at hP hD
  refine lv_aload_n hx hb dX7_becomes_40 rfl (lv_at hl 0 rfl) ?_
  refine va_get (D := G.1) (ci := 8) (v := .ref (q 9)) (C := RX7) (T := TX7) (N := 24) hx hb hts in_wsX7_becomes_X7 hown hK.1 hP 0 rfl rfl 8 (by decide) (w_mem hts 3 rfl) (fun _ h9 => h9) rfl dX7_becomes_41 ?_
  refine lv_iload_n hx hb dX7_becomes_44 rfl (lv_at hl 1 rfl) ?_
  refine lv_iload_n hx hb dX7_becomes_45 rfl (lv_at hl 2 rfl) ?_
  obtain ⟨g46, h⟩ := gd_ex h
  refine va_cast (D := G.1) hx hb hK.1 hP hD hS 9 1 rfl rfl g46 dX7_becomes_46 (fun H locs hP hD hS => ?_)
  have hP : va_P G.1 vwCl (MW G q (sA C_2 8 x1.toNatClampNeg (vp_nar .char x3))) H := hP
  have hD : va_D A (MW G q (sA C_2 8 x1.toNatClampNeg (vp_nar .char x3))) := hD
  obtain ⟨C_3, eC_3, h⟩ := ltv_ex h
  rw [← eC_3] at hP hD
  refine lv_iconst (v := 1) hx hb dX7_becomes_47 (by decide) ?_
  exact MQi.end hx hb hr hlocks hP hS dX7_becomes_48 rfl h

set_option maxHeartbeats 4000000 in
set_option maxRecDepth 100000 in
theorem wX7_becomes_16 {p : Program} {l : Launch} {e : Env} {s : State} {m : MethodId} {args : Array Value} {below : List Frame} {meth : Method} {c : Code} {G : GT} {q : Nat → Nat} {A : Nat → Prop} {out : Int32 × St} (bx : BX p RX7 wsX7_becomes cX7_becomes 4 (some .boolean) s m args meth c) (hA : ∀ q : Nat, s.heap.size ≤ q → A q) (hK : CK G s) (C : St) (x1 : Int32) (x2 : Int32) (x3 : Int32) (t1 : Int32) (t2 : Int32) (h : pX7_becomes_16 C x1 x2 x3 t1 t2 = some out) {H : Heap} {locs : List Loc} (hP : va_P G.1 vwCl (MW G q C) H) (hD : va_D A (MW G q C)) (hS : va_S A s.heap H locs) (ls : Array Slot) (hl : lv_has ls 4 [(0, .ref (q 0)), (1, .int x1), (2, .int x2), (3, .int x3)]) : W p l e rmX7_becomes s m args below meth c H locs 0 0 (MQi G (MW G q) A s args below out) (F0 m 16 ls [.int t2, .int t1, .ref (q 0)]) := by
  obtain ⟨hx, hb, hr, hts, hown, hml, hlocks⟩ := id bx
  unfold pX7_becomes_16 at h
  refine lv_ior hx hb dX7_becomes_16 ?_
  refine va_put (D := G.1) (ci := 8) (v := .int (t1 ||| t2)) (ty := .int) (C := RX7) (T := TX7) (N := 24) hx hb hts in_wsX7_becomes_X7 tyX7 tyX7_ok nmX7 hown hK.1 hP hD hS 0 rfl rfl 21 (by decide) (w_mem hts 1 rfl) (fun _ h9 => h9) rfl (by decide +kernel) rfl rfl (Nat.le_of_ble_eq_true rfl) dX7_becomes_17 (fun H locs hP hD hS => ?_)
  have hP : va_P G.1 vwCl (MW G q (sS C 5 (t1 ||| t2))) H := hP
  have hD : va_D A (MW G q (sS C 5 (t1 ||| t2))) := hD
  obtain ⟨C_1, eC_1, h⟩ := ltv_ex h
  rw [← eC_1] at hP hD
  refine lv_aload_n hx hb dX7_becomes_20 rfl (lv_at hl 0 rfl) ?_
  refine lv_dup hx hb dX7_becomes_21 rfl ?_
  refine va_get (D := G.1) (ci := 8) (v := .int (C_1.1 6)) (C := RX7) (T := TX7) (N := 24) hx hb hts in_wsX7_becomes_X7 hown hK.1 hP 0 rfl rfl 22 (by decide) (w_mem hts 2 rfl) (fun _ h9 => h9) rfl dX7_becomes_22 ?_
  refine lv_iload_n hx hb dX7_becomes_25 rfl (lv_at hl 2 rfl) ?_
  refine lv_if_eq (tgt := 33) hx hb dX7_becomes_26 (by decide) (fun c_26 => ?_) (fun c_26 => ?_)
  · have h := br_T h c_26
    refine lv_iconst (v := 1) hx hb dX7_becomes_33 (by decide) ?_
    refine lv_iload_n hx hb dX7_becomes_34 rfl (lv_at hl 1 rfl) ?_
    refine lv_ishl hx hb dX7_becomes_35 ?_
    exact wX7_becomes_36 bx hA hK C_1 x1 x3 (C_1.1 6) ((1 : Int32) <<< (x1 &&& 31)) h hP hD hS _ (lv_sub hl [0, 1, 3] rfl)
  · have h := br_F h c_26
    refine lv_iconst (v := 0) hx hb dX7_becomes_29 (by decide) ?_
    refine lv_goto (tgt := 36) hx hb dX7_becomes_30 (by decide) ?_
    exact wX7_becomes_36 bx hA hK C_1 x1 x3 (C_1.1 6) 0 h hP hD hS _ (lv_sub hl [0, 1, 3] rfl)

set_option maxHeartbeats 4000000 in
set_option maxRecDepth 100000 in
theorem kX7_becomes (l : Launch) (G : GT) (q : Nat → Nat) (C : St) (sz : Nat) (x1 : Int32) (x2 : Int32) (x3 : Int32) (r : Int32 × St) (h : pX7_becomes C x1 x2 x3 = some r) : Met l yX7_becomes wsX7_becomes rmX7_becomes (va_Pc [.ref (q 0), .int x1, .int x2, .int x3] (wrP G (MW G q C) sz)) (va_Qi (fun v u => (v, u) = r) (fun u t => va_P G.1 vwCl (MW G q u) t.heap) (va_A (MW G q C) sz)) 0 0 (va_A (MW G q C) sz) := by
  refine Met.ofW (cc := cX7_becomes) (maxL := 4) (ret := (some .boolean)) (by decide) rfl ?_
  intro p e s m args below meth c s₁ B hml hv
  obtain ⟨rfl, hsz, hP, hK, hD0⟩ := hv
  have bx := bx_of B hml
  subst hsz
  have hD := hD0.self (sz := s.heap.size)
  generalize hAe : va_A (MW G q C) s.heap.size = A at hD ⊢
  have hA : ∀ q : Nat, s.heap.size ≤ q → A q := fun q h => by rw [← hAe]; exact Or.inr h
  have hS : va_S A s.heap s.heap [] := va_S.rf
  obtain ⟨hx, hb, hr, hts, hown, hml, hlocks⟩ := id bx
  have hl := lv_entry ([.ref (q 0), .int x1, .int x2, .int x3]) (n := 4) (Nat.le_of_ble_eq_true rfl)
  rw [lg_entry_eq]
  generalize (lg_sl ([.ref (q 0), .int x1, .int x2, .int x3]) ++ List.replicate (4 - (lg_sl ([.ref (q 0), .int x1, .int x2, .int x3])).length) Slot.unset).toArray = ls at hl ⊢
  have hl : lv_has ls 4 [(0, .ref (q 0)), (1, .int x1), (2, .int x2), (3, .int x3)] := hl
  show W p l e rmX7_becomes s m _ below meth c s.heap [] 0 0 (MQi G (MW G q) A s _ below r) (F0 m 0 ls [])
  unfold pX7_becomes at h
  refine lv_aload_n hx hb dX7_becomes_0 rfl (lv_at hl 0 rfl) ?_
  refine lv_dup hx hb dX7_becomes_1 rfl ?_
  refine va_get (D := G.1) (ci := 8) (v := .int (C.1 5)) (C := RX7) (T := TX7) (N := 24) hx hb hts in_wsX7_becomes_X7 hown hK.1 hP 0 rfl rfl 21 (by decide) (w_mem hts 1 rfl) (fun _ h9 => h9) rfl dX7_becomes_2 ?_
  refine lv_iload_n hx hb dX7_becomes_5 rfl (lv_at hl 2 rfl) ?_
  refine lv_if_eq (tgt := 15) hx hb dX7_becomes_6 (by decide) (fun c_6 => ?_) (fun c_6 => ?_)
  · have h := br_T h c_6
    refine lv_iconst (v := 0) hx hb dX7_becomes_15 (by decide) ?_
    exact wX7_becomes_16 bx hA hK C x1 x2 x3 (C.1 5) 0 h hP hD hS _ (lv_sub hl [0, 1, 2, 3] rfl)
  · have h := br_F h c_6
    refine lv_iconst (v := 1) hx hb dX7_becomes_9 (by decide) ?_
    refine lv_iload_n hx hb dX7_becomes_10 rfl (lv_at hl 1 rfl) ?_
    refine lv_ishl hx hb dX7_becomes_11 ?_
    refine lv_goto (tgt := 16) hx hb dX7_becomes_12 (by decide) ?_
    exact wX7_becomes_16 bx hA hK C x1 x2 x3 (C.1 5) ((1 : Int32) <<< (x1 &&& 31)) h hP hD hS _ (lv_sub hl [0, 1, 2, 3] rfl)

def rmX7_isKnown : Room := { frames := 2, cells := 0, slots := 0, locals := 45 }

theorem in_wsX7_isKnown_X7 : ∀ w ∈ u_ws RX7 TX7 24, w ∈ wsX7_isKnown := by decide +kernel

set_option maxHeartbeats 4000000 in
set_option maxRecDepth 100000 in
theorem wX7_isKnown_191 {p : Program} {l : Launch} {e : Env} {s : State} {m : MethodId} {args : Array Value} {below : List Frame} {meth : Method} {c : Code} {G : GT} {q : Nat → Nat} {A : Nat → Prop} {out : Int32 × St} (bx : BX p RX7 wsX7_isKnown cX7_isKnown 5 (some .boolean) s m args meth c) (hA : ∀ q : Nat, s.heap.size ≤ q → A q) (hK : CK G s) (C : St) (x1 : Int32) (h : pX7_isKnown_191 C x1 = some out) {H : Heap} {locs : List Loc} (hP : va_P G.1 vwCl (MW G q C) H) (hD : va_D A (MW G q C)) (hS : va_S A s.heap H locs) (ls : Array Slot) (hl : lv_has ls 5 [(0, .ref (q 0)), (1, .int x1)]) : W p l e rmX7_isKnown s m args below meth c H locs 0 0 (MQi G (MW G q) A s args below out) (F0 m 191 ls []) := by
  obtain ⟨hx, hb, hr, hts, hown, hml, hlocks⟩ := id bx
  unfold pX7_isKnown_191 at h
  refine lv_aload_n hx hb dX7_isKnown_191 rfl (lv_at hl 0 rfl) ?_
  refine lv_iload_n hx hb dX7_isKnown_192 rfl (lv_at hl 1 rfl) ?_
  refine lv_iconst (v := 0) hx hb dX7_isKnown_193 (by decide) ?_
  refine lv_bipush (v := 103) hx hb dX7_isKnown_194 (by decide) ?_
  obtain ⟨u_8, hu_8, h⟩ := bd_ex h
  refine wr_i (Wd := MW G q) (va_runV (As := [.int x1, .int 0, .int 103]) (rest := []) ⟨hx, hb, hml, hown, hts⟩ (kX7_becomes l G q C _ x1 0 103 u_8 hu_8) (cwV 3 hts gX7_isKnown_X7_becomes rfl rfl rfl (by decide +kernel) ⟨Nat.le_of_ble_eq_true rfl, Nat.le_of_ble_eq_true rfl⟩) (wrV hP hD hK 8 0 rfl rfl) rfl rfl hl.1 rfl (lv_room (Nat.le_of_ble_eq_true rfl)) dX7_isKnown_196 ⟨Nat.zero_le _, Nat.zero_le _⟩) hD hS hA (fun _ => rfl) (fun H locs hP hD hS => ?_)
  obtain ⟨g199, h⟩ := gd_ex h
  exact MQi.end hx hb hr hlocks hP hS dX7_isKnown_199 (okZ_n g199) h

set_option maxHeartbeats 4000000 in
set_option maxRecDepth 100000 in
theorem wX7_isKnown_255 {p : Program} {l : Launch} {e : Env} {s : State} {m : MethodId} {args : Array Value} {below : List Frame} {meth : Method} {c : Code} {G : GT} {q : Nat → Nat} {A : Nat → Prop} {out : Int32 × St} (bx : BX p RX7 wsX7_isKnown cX7_isKnown 5 (some .boolean) s m args meth c) (hA : ∀ q : Nat, s.heap.size ≤ q → A q) (hK : CK G s) (C : St) (t1 : Int32) (t2 : Int32) (h : pX7_isKnown_255 C t1 t2 = some out) {H : Heap} {locs : List Loc} (hP : va_P G.1 vwCl (MW G q C) H) (hD : va_D A (MW G q C)) (hS : va_S A s.heap H locs) (ls : Array Slot) (hl : lv_has ls 5 []) : W p l e rmX7_isKnown s m args below meth c H locs 0 0 (MQi G (MW G q) A s args below out) (F0 m 255 ls [.int t2, .int t1, .ref (q 0)]) := by
  obtain ⟨hx, hb, hr, hts, hown, hml, hlocks⟩ := id bx
  unfold pX7_isKnown_255 at h
  refine lv_bipush (v := 114) hx hb dX7_isKnown_255 (by decide) ?_
  obtain ⟨u_13, hu_13, h⟩ := bd_ex h
  refine wr_i (Wd := MW G q) (va_runV (As := [.int t1, .int t2, .int 114]) (rest := []) ⟨hx, hb, hml, hown, hts⟩ (kX7_becomes l G q C _ t1 t2 114 u_13 hu_13) (cwV 3 hts gX7_isKnown_X7_becomes rfl rfl rfl (by decide +kernel) ⟨Nat.le_of_ble_eq_true rfl, Nat.le_of_ble_eq_true rfl⟩) (wrV hP hD hK 8 0 rfl rfl) rfl rfl hl.1 rfl (lv_room (Nat.le_of_ble_eq_true rfl)) dX7_isKnown_257 ⟨Nat.zero_le _, Nat.zero_le _⟩) hD hS hA (fun _ => rfl) (fun H locs hP hD hS => ?_)
  obtain ⟨g260, h⟩ := gd_ex h
  exact MQi.end hx hb hr hlocks hP hS dX7_isKnown_260 (okZ_n g260) h

set_option maxHeartbeats 4000000 in
set_option maxRecDepth 100000 in
theorem wX7_isKnown_229 {p : Program} {l : Launch} {e : Env} {s : State} {m : MethodId} {args : Array Value} {below : List Frame} {meth : Method} {c : Code} {G : GT} {q : Nat → Nat} {A : Nat → Prop} {out : Int32 × St} (bx : BX p RX7 wsX7_isKnown cX7_isKnown 5 (some .boolean) s m args meth c) (hA : ∀ q : Nat, s.heap.size ≤ q → A q) (hK : CK G s) {k202 : St → Int32 → Int32 → Option (Int32 × St)} (hk202 : ∀ (C : St) (x1 : Int32) (x3 : Int32), k202 C x1 x3 = some out → ∀ (H : Heap) (locs : List Loc) (hP : va_P G.1 vwCl (MW G q C) H) (hD : va_D A (MW G q C)) (hS : va_S A s.heap H locs), ∀ (ls : Array Slot), lv_has ls 5 [(0, .ref (q 0)), (1, .int x1), (3, .int x3)] → W p l e rmX7_isKnown s m args below meth c H locs 0 0 (MQi G (MW G q) A s args below out) (F0 m 202 ls [])) (C : St) (x1 : Int32) (x3 : Int32) (t0 : Int32) (h : pX7_isKnown_229 k202 C x1 x3 t0 = some out) {H : Heap} {locs : List Loc} (hP : va_P G.1 vwCl (MW G q C) H) (hD : va_D A (MW G q C)) (hS : va_S A s.heap H locs) (ls : Array Slot) (hl : lv_has ls 5 [(0, .ref (q 0)), (1, .int x1), (3, .int x3)]) : W p l e rmX7_isKnown s m args below meth c H locs 0 0 (MQi G (MW G q) A s args below out) (F0 m 229 ls [.int t0]) := by
  obtain ⟨hx, hb, hr, hts, hown, hml, hlocks⟩ := id bx
  unfold pX7_isKnown_229 at h
  refine lv_istore (lv' := [(4, .int t0), (0, .ref (q 0)), (1, .int x1), (3, .int x3)]) hx hb dX7_isKnown_229 hl (by decide) rfl (fun ls hl => ?_)
  refine lv_iload hx hb dX7_isKnown_231 (lv_at hl 0 rfl) ?_
  refine lv_if_eq (tgt := 261) hx hb dX7_isKnown_233 (by decide) (fun c_233 => ?_) (fun c_233 => ?_)
  · have h := br_T h c_233
    obtain ⟨v_11, ev_11, h⟩ := ltv_ex h
    refine lv_iinc (v := v_11) (lv' := [(3, .int v_11), (4, .int t0), (0, .ref (q 0)), (1, .int x1)]) hx hb dX7_isKnown_261 hl (k := 3) rfl (by rw [ev_11]; rfl) (by decide) rfl (fun ls hl => ?_)
    refine lv_goto (tgt := 202) hx hb dX7_isKnown_264 (by decide) ?_
    exact hk202 C x1 v_11 h _ _ hP hD hS _ (lv_sub hl [2, 3, 0] rfl)
  · have h := br_F h c_233
    refine lv_aload_n hx hb dX7_isKnown_236 rfl (lv_at hl 1 rfl) ?_
    refine va_get (D := G.1) (ci := 8) (v := .ref (q 16)) (C := RX7) (T := TX7) (N := 24) hx hb hts in_wsX7_isKnown_X7 hown hK.1 hP 0 rfl rfl 15 (by decide) (w_mem hts 9 rfl) (fun _ h9 => h9) rfl dX7_isKnown_237 ?_
    refine lv_iload_n hx hb dX7_isKnown_240 rfl (lv_at hl 2 rfl) ?_
    refine lv_iload_n hx hb dX7_isKnown_241 rfl (lv_at hl 3 rfl) ?_
    obtain ⟨g242, h⟩ := gd_ex h
    refine va_iast (D := G.1) hx hb hK.1 hP hD hS 16 0 rfl rfl g242 dX7_isKnown_242 (fun H locs hP hD hS => ?_)
    have hP : va_P G.1 vwCl (MW G q (sA C 15 x1.toNatClampNeg x3)) H := hP
    have hD : va_D A (MW G q (sA C 15 x1.toNatClampNeg x3)) := hD
    obtain ⟨C_12, eC_12, h⟩ := ltv_ex h
    rw [← eC_12] at hP hD
    refine lv_aload_n hx hb dX7_isKnown_243 rfl (lv_at hl 1 rfl) ?_
    refine lv_iload_n hx hb dX7_isKnown_244 rfl (lv_at hl 2 rfl) ?_
    refine lv_iload hx hb dX7_isKnown_245 (lv_at hl 0 rfl) ?_
    refine lv_if_le (tgt := 254) hx hb dX7_isKnown_247 (by decide) (fun c_247 => ?_) (fun c_247 => ?_)
    · have h := br_T h c_247
      refine lv_iconst (v := 0) hx hb dX7_isKnown_254 (by decide) ?_
      exact wX7_isKnown_255 bx hA hK C_12 x1 0 h hP hD hS _ (lv_sub hl [] rfl)
    · have h := br_F h c_247
      refine lv_iconst (v := 1) hx hb dX7_isKnown_250 (by decide) ?_
      refine lv_goto (tgt := 255) hx hb dX7_isKnown_251 (by decide) ?_
      exact wX7_isKnown_255 bx hA hK C_12 x1 1 h hP hD hS _ (lv_sub hl [] rfl)

set_option maxHeartbeats 4000000 in
set_option maxRecDepth 100000 in
theorem wX7_isKnown_202_b {p : Program} {l : Launch} {e : Env} {s : State} {m : MethodId} {args : Array Value} {below : List Frame} {meth : Method} {c : Code} {G : GT} {q : Nat → Nat} {A : Nat → Prop} {out : Int32 × St} (bx : BX p RX7 wsX7_isKnown cX7_isKnown 5 (some .boolean) s m args meth c) (hA : ∀ q : Nat, s.heap.size ≤ q → A q) (hK : CK G s) {k202 : St → Int32 → Int32 → Option (Int32 × St)} (hk202 : ∀ (C : St) (x1 : Int32) (x3 : Int32), k202 C x1 x3 = some out → ∀ (H : Heap) (locs : List Loc) (hP : va_P G.1 vwCl (MW G q C) H) (hD : va_D A (MW G q C)) (hS : va_S A s.heap H locs), ∀ (ls : Array Slot), lv_has ls 5 [(0, .ref (q 0)), (1, .int x1), (3, .int x3)] → W p l e rmX7_isKnown s m args below meth c H locs 0 0 (MQi G (MW G q) A s args below out) (F0 m 202 ls [])) (C : St) (x1 : Int32) (x3 : Int32) (h : pX7_isKnown_202_b k202 C x1 x3 = some out) {H : Heap} {locs : List Loc} (hP : va_P G.1 vwCl (MW G q C) H) (hD : va_D A (MW G q C)) (hS : va_S A s.heap H locs) (ls : Array Slot) (hl : lv_has ls 5 [(0, .ref (q 0)), (1, .int x1), (3, .int x3)]) : W p l e rmX7_isKnown s m args below meth c H locs 0 0 (MQi G (MW G q) A s args below out) (F0 m 202 ls []) := by
  obtain ⟨hx, hb, hr, hts, hown, hml, hlocks⟩ := id bx
  unfold pX7_isKnown_202_b at h
  refine lv_iload_n hx hb dX7_isKnown_202 rfl (lv_at hl 2 rfl) ?_
  refine lv_aload_n hx hb dX7_isKnown_203 rfl (lv_at hl 0 rfl) ?_
  refine va_get (D := G.1) (ci := 8) (v := .int (C.1 1)) (C := RX7) (T := TX7) (N := 24) hx hb hts in_wsX7_isKnown_X7 hown hK.1 hP 0 rfl rfl 17 (by decide) (w_mem hts 7 rfl) (fun _ h9 => h9) rfl dX7_isKnown_204 ?_
  refine lv_icmp_ge (tgt := 267) hx hb dX7_isKnown_207 (by decide) (fun c_207 => ?_) (fun c_207 => ?_)
  · have h := br_T h c_207
    refine lv_iconst (v := 0) hx hb dX7_isKnown_267 (by decide) ?_
    exact MQi.end hx hb hr hlocks hP hS dX7_isKnown_268 rfl h
  · have h := br_F h c_207
    refine lv_aload_n hx hb dX7_isKnown_210 rfl (lv_at hl 0 rfl) ?_
    refine va_get (D := G.1) (ci := 8) (v := .ref (q 6)) (C := RX7) (T := TX7) (N := 24) hx hb hts in_wsX7_isKnown_X7 hown hK.1 hP 0 rfl rfl 5 (by decide) (w_mem hts 8 rfl) (fun _ h9 => h9) rfl dX7_isKnown_211 ?_
    refine lv_iload_n hx hb dX7_isKnown_214 rfl (lv_at hl 2 rfl) ?_
    obtain ⟨g215, h⟩ := gd_ex h
    refine va_zald (D := G.1) hx hb hK.1 hP 6 2 rfl rfl g215 dX7_isKnown_215 ?_
    refine lv_if_eq (tgt := 223) hx hb dX7_isKnown_216 (by decide) (fun c_216 => ?_) (fun c_216 => ?_)
    · have h := br_T h c_216
      refine lv_aload_n hx hb dX7_isKnown_223 rfl (lv_at hl 0 rfl) ?_
      refine lv_iload_n hx hb dX7_isKnown_224 rfl (lv_at hl 2 rfl) ?_
      refine lv_iload_n hx hb dX7_isKnown_225 rfl (lv_at hl 1 rfl) ?_
      obtain ⟨r_10, hr_10, h⟩ := bd_ex h
      refine ro_i (va_runV (As := [.int x3, .int x1]) (rest := []) ⟨hx, hb, hml, hown, hts⟩ (kX7_told l G q C x3 x1 r_10 hr_10) (cwV 2 hts gX7_isKnown_X7_told rfl rfl rfl (by decide +kernel) ⟨Nat.le_of_ble_eq_true rfl, Nat.le_of_ble_eq_true rfl⟩) (roV hP hK 8 0 rfl rfl) rfl rfl hl.1 rfl (lv_room (Nat.le_of_ble_eq_true rfl)) dX7_isKnown_226 ⟨Nat.zero_le _, Nat.zero_le _⟩) ?_
      exact wX7_isKnown_229 bx hA hK hk202 C x1 x3 r_10 h hP hD hS _ (lv_sub hl [0, 1, 2] rfl)
    · have h := br_F h c_216
      refine lv_iconst (v := 0) hx hb dX7_isKnown_219 (by decide) ?_
      refine lv_goto (tgt := 229) hx hb dX7_isKnown_220 (by decide) ?_
      exact wX7_isKnown_229 bx hA hK hk202 C x1 x3 0 h hP hD hS _ (lv_sub hl [0, 1, 2] rfl)

theorem wX7_isKnown_202 {p : Program} {l : Launch} {e : Env} {s : State} {m : MethodId} {args : Array Value} {below : List Frame} {meth : Method} {c : Code} {G : GT} {q : Nat → Nat} {A : Nat → Prop} {out : Int32 × St} (bx : BX p RX7 wsX7_isKnown cX7_isKnown 5 (some .boolean) s m args meth c) (hA : ∀ q : Nat, s.heap.size ≤ q → A q) (hK : CK G s) :
    ∀ (n : Nat) (C : St) (x1 : Int32) (x3 : Int32), pX7_isKnown_202 n C x1 x3 = some out → ∀ (H : Heap) (locs : List Loc) (hP : va_P G.1 vwCl (MW G q C) H) (hD : va_D A (MW G q C)) (hS : va_S A s.heap H locs), ∀ (ls : Array Slot), lv_has ls 5 [(0, .ref (q 0)), (1, .int x1), (3, .int x3)] → W p l e rmX7_isKnown s m args below meth c H locs 0 0 (MQi G (MW G q) A s args below out) (F0 m 202 ls []) := by
  intro n
  induction n with
  | zero => intro _ _ _ h; cases h
  | succ n ih => exact fun a0 a1 a2 h _ _ hP hD hS ls hl => wX7_isKnown_202_b bx hA hK ih a0 a1 a2 h hP hD hS ls hl

set_option maxHeartbeats 4000000 in
set_option maxRecDepth 100000 in
theorem wX7_isKnown_161 {p : Program} {l : Launch} {e : Env} {s : State} {m : MethodId} {args : Array Value} {below : List Frame} {meth : Method} {c : Code} {G : GT} {q : Nat → Nat} {A : Nat → Prop} {out : Int32 × St} (bx : BX p RX7 wsX7_isKnown cX7_isKnown 5 (some .boolean) s m args meth c) (hA : ∀ q : Nat, s.heap.size ≤ q → A q) (hK : CK G s) (C : St) (x1 : Int32) (h : pX7_isKnown_161 C x1 = some out) {H : Heap} {locs : List Loc} (hP : va_P G.1 vwCl (MW G q C) H) (hD : va_D A (MW G q C)) (hS : va_S A s.heap H locs) (ls : Array Slot) (hl : lv_has ls 5 [(0, .ref (q 0)), (1, .int x1)]) : W p l e rmX7_isKnown s m args below meth c H locs 0 0 (MQi G (MW G q) A s args below out) (F0 m 161 ls []) := by
  obtain ⟨hx, hb, hr, hts, hown, hml, hlocks⟩ := id bx
  unfold pX7_isKnown_161 at h
  refine lv_aload_n hx hb dX7_isKnown_161 rfl (lv_at hl 0 rfl) ?_
  refine lv_iload_n hx hb dX7_isKnown_162 rfl (lv_at hl 1 rfl) ?_
  refine lv_iconst (v := 0) hx hb dX7_isKnown_163 (by decide) ?_
  obtain ⟨r_7, hr_7, h⟩ := bd_ex h
  refine ro_i (va_runV (As := [.int x1, .int 0]) (rest := []) ⟨hx, hb, hml, hown, hts⟩ (kX7_children l G q C x1 0 r_7 hr_7) (cwV 2 hts gX7_isKnown_X7_children rfl rfl rfl (by decide +kernel) ⟨Nat.le_of_ble_eq_true rfl, Nat.le_of_ble_eq_true rfl⟩) (roV hP hK 8 0 rfl rfl) rfl rfl hl.1 rfl (lv_room (Nat.le_of_ble_eq_true rfl)) dX7_isKnown_164 ⟨Nat.zero_le _, Nat.zero_le _⟩) ?_
  refine lv_aload_n hx hb dX7_isKnown_167 rfl (lv_at hl 0 rfl) ?_
  refine va_get (D := G.1) (ci := 8) (v := .ref (q 3)) (C := RX7) (T := TX7) (N := 24) hx hb hts in_wsX7_isKnown_X7 hown hK.1 hP 0 rfl rfl 2 (by decide) (w_mem hts 6 rfl) (fun _ h9 => h9) rfl dX7_isKnown_168 ?_
  refine lv_iload_n hx hb dX7_isKnown_171 rfl (lv_at hl 1 rfl) ?_
  obtain ⟨g172, h⟩ := gd_ex h
  refine va_iald (D := G.1) hx hb hK.1 hP 3 0 rfl rfl g172 dX7_isKnown_172 ?_
  refine lv_icmp_lt (tgt := 191) hx hb dX7_isKnown_173 (by decide) (fun c_173 => ?_) (fun c_173 => ?_)
  · have h := br_T h c_173
    exact wX7_isKnown_191 bx hA hK C x1 h hP hD hS _ (lv_sub hl [0, 1] rfl)
  · have h := br_F h c_173
    refine lv_aload_n hx hb dX7_isKnown_176 rfl (lv_at hl 0 rfl) ?_
    refine lv_iload_n hx hb dX7_isKnown_177 rfl (lv_at hl 1 rfl) ?_
    refine lv_iconst (v := 1) hx hb dX7_isKnown_178 (by decide) ?_
    obtain ⟨r_9, hr_9, h⟩ := bd_ex h
    refine ro_i (va_runV (As := [.int x1, .int 1]) (rest := []) ⟨hx, hb, hml, hown, hts⟩ (kX7_children l G q C x1 1 r_9 hr_9) (cwV 2 hts gX7_isKnown_X7_children rfl rfl rfl (by decide +kernel) ⟨Nat.le_of_ble_eq_true rfl, Nat.le_of_ble_eq_true rfl⟩) (roV hP hK 8 0 rfl rfl) rfl rfl hl.1 rfl (lv_room (Nat.le_of_ble_eq_true rfl)) dX7_isKnown_179 ⟨Nat.zero_le _, Nat.zero_le _⟩) ?_
    refine lv_aload_n hx hb dX7_isKnown_182 rfl (lv_at hl 0 rfl) ?_
    refine va_get (D := G.1) (ci := 8) (v := .ref (q 4)) (C := RX7) (T := TX7) (N := 24) hx hb hts in_wsX7_isKnown_X7 hown hK.1 hP 0 rfl rfl 3 (by decide) (w_mem hts 5 rfl) (fun _ h9 => h9) rfl dX7_isKnown_183 ?_
    refine lv_iload_n hx hb dX7_isKnown_186 rfl (lv_at hl 1 rfl) ?_
    obtain ⟨g187, h⟩ := gd_ex h
    refine va_iald (D := G.1) hx hb hK.1 hP 4 0 rfl rfl g187 dX7_isKnown_187 ?_
    refine lv_icmp_le (tgt := 200) hx hb dX7_isKnown_188 (by decide) (fun c_188 => ?_) (fun c_188 => ?_)
    · have h := br_T h c_188
      refine lv_iconst (v := 0) hx hb dX7_isKnown_200 (by decide) ?_
      refine lv_istore_n (lv' := [(3, .int 0), (0, .ref (q 0)), (1, .int x1)]) hx hb dX7_isKnown_201 rfl hl (by decide) rfl (fun ls hl => ?_)
      exact wX7_isKnown_202 bx hA hK FU C x1 0 h _ _ hP hD hS _ (lv_sub hl [1, 2, 0] rfl)
    · have h := br_F h c_188
      exact wX7_isKnown_191 bx hA hK C x1 h hP hD hS _ (lv_sub hl [0, 1] rfl)

set_option maxHeartbeats 4000000 in
set_option maxRecDepth 100000 in
theorem wX7_isKnown_126 {p : Program} {l : Launch} {e : Env} {s : State} {m : MethodId} {args : Array Value} {below : List Frame} {meth : Method} {c : Code} {G : GT} {q : Nat → Nat} {A : Nat → Prop} {out : Int32 × St} (bx : BX p RX7 wsX7_isKnown cX7_isKnown 5 (some .boolean) s m args meth c) (hA : ∀ q : Nat, s.heap.size ≤ q → A q) (hK : CK G s) (C : St) (x1 : Int32) (x2 : Int32) (h : pX7_isKnown_126 C x1 x2 = some out) {H : Heap} {locs : List Loc} (hP : va_P G.1 vwCl (MW G q C) H) (hD : va_D A (MW G q C)) (hS : va_S A s.heap H locs) (ls : Array Slot) (hl : lv_has ls 5 [(0, .ref (q 0)), (1, .int x1), (2, .int x2)]) : W p l e rmX7_isKnown s m args below meth c H locs 0 0 (MQi G (MW G q) A s args below out) (F0 m 126 ls []) := by
  obtain ⟨hx, hb, hr, hts, hown, hml, hlocks⟩ := id bx
  unfold pX7_isKnown_126 at h
  refine lv_aload_n hx hb dX7_isKnown_126 rfl (lv_at hl 0 rfl) ?_
  refine va_get (D := G.1) (ci := 8) (v := .int (C.1 5)) (C := RX7) (T := TX7) (N := 24) hx hb hts in_wsX7_isKnown_X7 hown hK.1 hP 0 rfl rfl 21 (by decide) (w_mem hts 4 rfl) (fun _ h9 => h9) rfl dX7_isKnown_127 ?_
  refine lv_iload_n hx hb dX7_isKnown_130 rfl (lv_at hl 2 rfl) ?_
  obtain ⟨r_6, hr_6, h⟩ := bd_ex h
  refine ro_i (va_runS (As := [.int (C.1 5), .int x2]) (rest := []) ⟨hx, hb, hml, hown, hts⟩ (kX7_has l G q C (C.1 5) x2 r_6 hr_6) (va_cwS 2 hts gX7_isKnown_X7_has rfl rfl rfl (by decide +kernel) ⟨Nat.le_of_ble_eq_true rfl, Nat.le_of_ble_eq_true rfl⟩) (roS hP hK) rfl rfl hl.1 rfl (lv_room (Nat.le_of_ble_eq_true rfl)) dX7_isKnown_131 ⟨Nat.zero_le _, Nat.zero_le _⟩) ?_
  refine lv_if_eq (tgt := 161) hx hb dX7_isKnown_134 (by decide) (fun c_134 => ?_) (fun c_134 => ?_)
  · have h := br_T h c_134
    exact wX7_isKnown_161 bx hA hK C x1 h hP hD hS _ (lv_sub hl [0, 1] rfl)
  · have h := br_F h c_134
    refine lv_aload_n hx hb dX7_isKnown_137 rfl (lv_at hl 0 rfl) ?_
    refine lv_iload_n hx hb dX7_isKnown_138 rfl (lv_at hl 2 rfl) ?_
    refine lv_iconst (v := 0) hx hb dX7_isKnown_139 (by decide) ?_
    obtain ⟨r_14, hr_14, h⟩ := bd_ex h
    refine ro_i (va_runV (As := [.int x2, .int 0]) (rest := []) ⟨hx, hb, hml, hown, hts⟩ (kX7_children l G q C x2 0 r_14 hr_14) (cwV 2 hts gX7_isKnown_X7_children rfl rfl rfl (by decide +kernel) ⟨Nat.le_of_ble_eq_true rfl, Nat.le_of_ble_eq_true rfl⟩) (roV hP hK 8 0 rfl rfl) rfl rfl hl.1 rfl (lv_room (Nat.le_of_ble_eq_true rfl)) dX7_isKnown_140 ⟨Nat.zero_le _, Nat.zero_le _⟩) ?_
    refine lv_aload_n hx hb dX7_isKnown_143 rfl (lv_at hl 0 rfl) ?_
    refine va_get (D := G.1) (ci := 8) (v := .ref (q 3)) (C := RX7) (T := TX7) (N := 24) hx hb hts in_wsX7_isKnown_X7 hown hK.1 hP 0 rfl rfl 2 (by decide) (w_mem hts 6 rfl) (fun _ h9 => h9) rfl dX7_isKnown_144 ?_
    refine lv_iload_n hx hb dX7_isKnown_147 rfl (lv_at hl 2 rfl) ?_
    obtain ⟨g148, h⟩ := gd_ex h
    refine va_iald (D := G.1) hx hb hK.1 hP 3 0 rfl rfl g148 dX7_isKnown_148 ?_
    refine lv_icmp_ne (tgt := 161) hx hb dX7_isKnown_149 (by decide) (fun c_149 => ?_) (fun c_149 => ?_)
    · have h := br_F h c_149
      exact wX7_isKnown_161 bx hA hK C x1 h hP hD hS _ (lv_sub hl [0, 1] rfl)
    · have h := br_T h c_149
      refine lv_aload_n hx hb dX7_isKnown_152 rfl (lv_at hl 0 rfl) ?_
      refine lv_iload_n hx hb dX7_isKnown_153 rfl (lv_at hl 1 rfl) ?_
      refine lv_iconst (v := 1) hx hb dX7_isKnown_154 (by decide) ?_
      refine lv_bipush (v := 110) hx hb dX7_isKnown_155 (by decide) ?_
      obtain ⟨u_15, hu_15, h⟩ := bd_ex h
      refine wr_i (Wd := MW G q) (va_runV (As := [.int x1, .int 1, .int 110]) (rest := []) ⟨hx, hb, hml, hown, hts⟩ (kX7_becomes l G q C _ x1 1 110 u_15 hu_15) (cwV 3 hts gX7_isKnown_X7_becomes rfl rfl rfl (by decide +kernel) ⟨Nat.le_of_ble_eq_true rfl, Nat.le_of_ble_eq_true rfl⟩) (wrV hP hD hK 8 0 rfl rfl) rfl rfl hl.1 rfl (lv_room (Nat.le_of_ble_eq_true rfl)) dX7_isKnown_157 ⟨Nat.zero_le _, Nat.zero_le _⟩) hD hS hA (fun _ => rfl) (fun H locs hP hD hS => ?_)
      obtain ⟨g160, h⟩ := gd_ex h
      exact MQi.end hx hb hr hlocks hP hS dX7_isKnown_160 (okZ_n g160) h

set_option maxHeartbeats 4000000 in
set_option maxRecDepth 100000 in
theorem wX7_isKnown_74 {p : Program} {l : Launch} {e : Env} {s : State} {m : MethodId} {args : Array Value} {below : List Frame} {meth : Method} {c : Code} {G : GT} {q : Nat → Nat} {A : Nat → Prop} {out : Int32 × St} (bx : BX p RX7 wsX7_isKnown cX7_isKnown 5 (some .boolean) s m args meth c) (hA : ∀ q : Nat, s.heap.size ≤ q → A q) (hK : CK G s) (C : St) (x1 : Int32) (x2 : Int32) (h : pX7_isKnown_74 C x1 x2 = some out) {H : Heap} {locs : List Loc} (hP : va_P G.1 vwCl (MW G q C) H) (hD : va_D A (MW G q C)) (hS : va_S A s.heap H locs) (ls : Array Slot) (hl : lv_has ls 5 [(0, .ref (q 0)), (1, .int x1), (2, .int x2)]) : W p l e rmX7_isKnown s m args below meth c H locs 0 0 (MQi G (MW G q) A s args below out) (F0 m 74 ls []) := by
  obtain ⟨hx, hb, hr, hts, hown, hml, hlocks⟩ := id bx
  unfold pX7_isKnown_74 at h
  refine lv_aload_n hx hb dX7_isKnown_74 rfl (lv_at hl 0 rfl) ?_
  refine lv_iload_n hx hb dX7_isKnown_75 rfl (lv_at hl 1 rfl) ?_
  obtain ⟨r_4, hr_4, h⟩ := bd_ex h
  refine ro_i (va_runV (As := [.int x1]) (rest := []) ⟨hx, hb, hml, hown, hts⟩ (kX7_hasOffChild l G q C x1 r_4 hr_4) (cwV 1 hts gX7_isKnown_X7_hasOffChild rfl rfl rfl (by decide +kernel) ⟨Nat.le_of_ble_eq_true rfl, Nat.le_of_ble_eq_true rfl⟩) (roV hP hK 8 0 rfl rfl) rfl rfl hl.1 rfl (lv_room (Nat.le_of_ble_eq_true rfl)) dX7_isKnown_76 ⟨Nat.zero_le _, Nat.zero_le _⟩) ?_
  refine lv_if_eq (tgt := 91) hx hb dX7_isKnown_79 (by decide) (fun c_79 => ?_) (fun c_79 => ?_)
  · have h := br_T h c_79
    refine lv_aload_n hx hb dX7_isKnown_91 rfl (lv_at hl 0 rfl) ?_
    refine va_get (D := G.1) (ci := 8) (v := .int (C.1 5)) (C := RX7) (T := TX7) (N := 24) hx hb hts in_wsX7_isKnown_X7 hown hK.1 hP 0 rfl rfl 21 (by decide) (w_mem hts 4 rfl) (fun _ h9 => h9) rfl dX7_isKnown_92 ?_
    refine lv_iload_n hx hb dX7_isKnown_95 rfl (lv_at hl 2 rfl) ?_
    obtain ⟨r_5, hr_5, h⟩ := bd_ex h
    refine ro_i (va_runS (As := [.int (C.1 5), .int x2]) (rest := []) ⟨hx, hb, hml, hown, hts⟩ (kX7_has l G q C (C.1 5) x2 r_5 hr_5) (va_cwS 2 hts gX7_isKnown_X7_has rfl rfl rfl (by decide +kernel) ⟨Nat.le_of_ble_eq_true rfl, Nat.le_of_ble_eq_true rfl⟩) (roS hP hK) rfl rfl hl.1 rfl (lv_room (Nat.le_of_ble_eq_true rfl)) dX7_isKnown_96 ⟨Nat.zero_le _, Nat.zero_le _⟩) ?_
    refine lv_if_eq (tgt := 126) hx hb dX7_isKnown_99 (by decide) (fun c_99 => ?_) (fun c_99 => ?_)
    · have h := br_T h c_99
      exact wX7_isKnown_126 bx hA hK C x1 x2 h hP hD hS _ (lv_sub hl [0, 1, 2] rfl)
    · have h := br_F h c_99
      refine lv_aload_n hx hb dX7_isKnown_102 rfl (lv_at hl 0 rfl) ?_
      refine lv_iload_n hx hb dX7_isKnown_103 rfl (lv_at hl 2 rfl) ?_
      refine lv_iconst (v := 1) hx hb dX7_isKnown_104 (by decide) ?_
      obtain ⟨r_16, hr_16, h⟩ := bd_ex h
      refine ro_i (va_runV (As := [.int x2, .int 1]) (rest := []) ⟨hx, hb, hml, hown, hts⟩ (kX7_children l G q C x2 1 r_16 hr_16) (cwV 2 hts gX7_isKnown_X7_children rfl rfl rfl (by decide +kernel) ⟨Nat.le_of_ble_eq_true rfl, Nat.le_of_ble_eq_true rfl⟩) (roV hP hK 8 0 rfl rfl) rfl rfl hl.1 rfl (lv_room (Nat.le_of_ble_eq_true rfl)) dX7_isKnown_105 ⟨Nat.zero_le _, Nat.zero_le _⟩) ?_
      refine lv_aload_n hx hb dX7_isKnown_108 rfl (lv_at hl 0 rfl) ?_
      refine va_get (D := G.1) (ci := 8) (v := .ref (q 4)) (C := RX7) (T := TX7) (N := 24) hx hb hts in_wsX7_isKnown_X7 hown hK.1 hP 0 rfl rfl 3 (by decide) (w_mem hts 5 rfl) (fun _ h9 => h9) rfl dX7_isKnown_109 ?_
      refine lv_iload_n hx hb dX7_isKnown_112 rfl (lv_at hl 2 rfl) ?_
      obtain ⟨g113, h⟩ := gd_ex h
      refine va_iald (D := G.1) hx hb hK.1 hP 4 0 rfl rfl g113 dX7_isKnown_113 ?_
      refine lv_icmp_ne (tgt := 126) hx hb dX7_isKnown_114 (by decide) (fun c_114 => ?_) (fun c_114 => ?_)
      · have h := br_F h c_114
        exact wX7_isKnown_126 bx hA hK C x1 x2 h hP hD hS _ (lv_sub hl [0, 1, 2] rfl)
      · have h := br_T h c_114
        refine lv_aload_n hx hb dX7_isKnown_117 rfl (lv_at hl 0 rfl) ?_
        refine lv_iload_n hx hb dX7_isKnown_118 rfl (lv_at hl 1 rfl) ?_
        refine lv_iconst (v := 0) hx hb dX7_isKnown_119 (by decide) ?_
        refine lv_bipush (v := 102) hx hb dX7_isKnown_120 (by decide) ?_
        obtain ⟨u_17, hu_17, h⟩ := bd_ex h
        refine wr_i (Wd := MW G q) (va_runV (As := [.int x1, .int 0, .int 102]) (rest := []) ⟨hx, hb, hml, hown, hts⟩ (kX7_becomes l G q C _ x1 0 102 u_17 hu_17) (cwV 3 hts gX7_isKnown_X7_becomes rfl rfl rfl (by decide +kernel) ⟨Nat.le_of_ble_eq_true rfl, Nat.le_of_ble_eq_true rfl⟩) (wrV hP hD hK 8 0 rfl rfl) rfl rfl hl.1 rfl (lv_room (Nat.le_of_ble_eq_true rfl)) dX7_isKnown_122 ⟨Nat.zero_le _, Nat.zero_le _⟩) hD hS hA (fun _ => rfl) (fun H locs hP hD hS => ?_)
        obtain ⟨g125, h⟩ := gd_ex h
        exact MQi.end hx hb hr hlocks hP hS dX7_isKnown_125 (okZ_n g125) h
  · have h := br_F h c_79
    refine lv_aload_n hx hb dX7_isKnown_82 rfl (lv_at hl 0 rfl) ?_
    refine lv_iload_n hx hb dX7_isKnown_83 rfl (lv_at hl 1 rfl) ?_
    refine lv_iconst (v := 0) hx hb dX7_isKnown_84 (by decide) ?_
    refine lv_bipush (v := 107) hx hb dX7_isKnown_85 (by decide) ?_
    obtain ⟨u_18, hu_18, h⟩ := bd_ex h
    refine wr_i (Wd := MW G q) (va_runV (As := [.int x1, .int 0, .int 107]) (rest := []) ⟨hx, hb, hml, hown, hts⟩ (kX7_becomes l G q C _ x1 0 107 u_18 hu_18) (cwV 3 hts gX7_isKnown_X7_becomes rfl rfl rfl (by decide +kernel) ⟨Nat.le_of_ble_eq_true rfl, Nat.le_of_ble_eq_true rfl⟩) (wrV hP hD hK 8 0 rfl rfl) rfl rfl hl.1 rfl (lv_room (Nat.le_of_ble_eq_true rfl)) dX7_isKnown_87 ⟨Nat.zero_le _, Nat.zero_le _⟩) hD hS hA (fun _ => rfl) (fun H locs hP hD hS => ?_)
    obtain ⟨g90, h⟩ := gd_ex h
    exact MQi.end hx hb hr hlocks hP hS dX7_isKnown_90 (okZ_n g90) h

set_option maxHeartbeats 4000000 in
set_option maxRecDepth 100000 in
theorem kX7_isKnown (l : Launch) (G : GT) (q : Nat → Nat) (C : St) (sz : Nat) (x1 : Int32) (r : Int32 × St) (h : pX7_isKnown C x1 = some r) : Met l yX7_isKnown wsX7_isKnown rmX7_isKnown (va_Pc [.ref (q 0), .int x1] (wrP G (MW G q C) sz)) (va_Qi (fun v u => (v, u) = r) (fun u t => va_P G.1 vwCl (MW G q u) t.heap) (va_A (MW G q C) sz)) 0 0 (va_A (MW G q C) sz) := by
  refine Met.ofW (cc := cX7_isKnown) (maxL := 5) (ret := (some .boolean)) (by decide) rfl ?_
  intro p e s m args below meth c s₁ B hml hv
  obtain ⟨rfl, hsz, hP, hK, hD0⟩ := hv
  have bx := bx_of B hml
  subst hsz
  have hD := hD0.self (sz := s.heap.size)
  generalize hAe : va_A (MW G q C) s.heap.size = A at hD ⊢
  have hA : ∀ q : Nat, s.heap.size ≤ q → A q := fun q h => by rw [← hAe]; exact Or.inr h
  have hS : va_S A s.heap s.heap [] := va_S.rf
  obtain ⟨hx, hb, hr, hts, hown, hml, hlocks⟩ := id bx
  have hl := lv_entry ([.ref (q 0), .int x1]) (n := 5) (Nat.le_of_ble_eq_true rfl)
  rw [lg_entry_eq]
  generalize (lg_sl ([.ref (q 0), .int x1]) ++ List.replicate (5 - (lg_sl ([.ref (q 0), .int x1])).length) Slot.unset).toArray = ls at hl ⊢
  have hl : lv_has ls 5 [(0, .ref (q 0)), (1, .int x1)] := hl
  show W p l e rmX7_isKnown s m _ below meth c s.heap [] 0 0 (MQi G (MW G q) A s _ below r) (F0 m 0 ls [])
  unfold pX7_isKnown at h
  refine lv_aload_n hx hb dX7_isKnown_0 rfl (lv_at hl 0 rfl) ?_
  refine va_get (D := G.1) (ci := 8) (v := .ref (q 1)) (C := RX7) (T := TX7) (N := 24) hx hb hts in_wsX7_isKnown_X7 hown hK.1 hP 0 rfl rfl 0 (by decide) (w_mem hts 1 rfl) (fun _ h9 => h9) rfl dX7_isKnown_1 ?_
  refine lv_iload_n hx hb dX7_isKnown_4 rfl (lv_at hl 1 rfl) ?_
  obtain ⟨g5, h⟩ := gd_ex h
  refine va_iald (D := G.1) hx hb hK.1 hP 1 0 rfl rfl g5 dX7_isKnown_5 ?_
  refine lv_topi (fun v_1 ev_1 => ?_)
  have h := ltv_at h v_1 ev_1
  refine lv_istore_n (lv' := [(2, .int v_1), (0, .ref (q 0)), (1, .int x1)]) hx hb dX7_isKnown_6 rfl hl (by decide) rfl (fun ls hl => ?_)
  refine lv_aload_n hx hb dX7_isKnown_7 rfl (lv_at hl 1 rfl) ?_
  refine lv_iload_n hx hb dX7_isKnown_8 rfl (lv_at hl 2 rfl) ?_
  refine lv_iconst (v := 1) hx hb dX7_isKnown_9 (by decide) ?_
  obtain ⟨r_2, hr_2, h⟩ := bd_ex h
  refine ro_i (va_runV (As := [.int x1, .int 1]) (rest := []) ⟨hx, hb, hml, hown, hts⟩ (kX7_children l G q C x1 1 r_2 hr_2) (cwV 2 hts gX7_isKnown_X7_children rfl rfl rfl (by decide +kernel) ⟨Nat.le_of_ble_eq_true rfl, Nat.le_of_ble_eq_true rfl⟩) (roV hP hK 8 0 rfl rfl) rfl rfl hl.1 rfl (lv_room (Nat.le_of_ble_eq_true rfl)) dX7_isKnown_10 ⟨Nat.zero_le _, Nat.zero_le _⟩) ?_
  refine lv_if_le (tgt := 25) hx hb dX7_isKnown_13 (by decide) (fun c_13 => ?_) (fun c_13 => ?_)
  · have h := br_T h c_13
    refine lv_aload_n hx hb dX7_isKnown_25 rfl (lv_at hl 1 rfl) ?_
    refine va_get (D := G.1) (ci := 8) (v := .int (C.1 6)) (C := RX7) (T := TX7) (N := 24) hx hb hts in_wsX7_isKnown_X7 hown hK.1 hP 0 rfl rfl 22 (by decide) (w_mem hts 2 rfl) (fun _ h9 => h9) rfl dX7_isKnown_26 ?_
    refine lv_iload_n hx hb dX7_isKnown_29 rfl (lv_at hl 0 rfl) ?_
    obtain ⟨r_3, hr_3, h⟩ := bd_ex h
    refine ro_i (va_runS (As := [.int (C.1 6), .int v_1]) (rest := []) ⟨hx, hb, hml, hown, hts⟩ (kX7_has l G q C (C.1 6) v_1 r_3 hr_3) (va_cwS 2 hts gX7_isKnown_X7_has rfl rfl rfl (by decide +kernel) ⟨Nat.le_of_ble_eq_true rfl, Nat.le_of_ble_eq_true rfl⟩) (roS hP hK) rfl rfl hl.1 rfl (lv_room (Nat.le_of_ble_eq_true rfl)) dX7_isKnown_30 ⟨Nat.zero_le _, Nat.zero_le _⟩) ?_
    refine lv_if_eq (tgt := 45) hx hb dX7_isKnown_33 (by decide) (fun c_33 => ?_) (fun c_33 => ?_)
    · have h := br_T h c_33
      refine lv_aload_n hx hb dX7_isKnown_45 rfl (lv_at hl 1 rfl) ?_
      refine va_get (D := G.1) (ci := 8) (v := .ref (q 5)) (C := RX7) (T := TX7) (N := 24) hx hb hts in_wsX7_isKnown_X7 hown hK.1 hP 0 rfl rfl 4 (by decide) (w_mem hts 3 rfl) (fun _ h9 => h9) rfl dX7_isKnown_46 ?_
      refine lv_iload_n hx hb dX7_isKnown_49 rfl (lv_at hl 2 rfl) ?_
      obtain ⟨g50, h⟩ := gd_ex h
      refine va_zald (D := G.1) hx hb hK.1 hP 5 2 rfl rfl g50 dX7_isKnown_50 ?_
      refine lv_if_eq (tgt := 74) hx hb dX7_isKnown_51 (by decide) (fun c_51 => ?_) (fun c_51 => ?_)
      · have h := br_T h c_51
        exact wX7_isKnown_74 bx hA hK C x1 v_1 h hP hD hS _ (lv_sub hl [1, 2, 0] rfl)
      · have h := br_F h c_51
        refine lv_aload_n hx hb dX7_isKnown_54 rfl (lv_at hl 1 rfl) ?_
        refine va_get (D := G.1) (ci := 8) (v := .int (C.1 5)) (C := RX7) (T := TX7) (N := 24) hx hb hts in_wsX7_isKnown_X7 hown hK.1 hP 0 rfl rfl 21 (by decide) (w_mem hts 4 rfl) (fun _ h9 => h9) rfl dX7_isKnown_55 ?_
        refine lv_iload_n hx hb dX7_isKnown_58 rfl (lv_at hl 0 rfl) ?_
        obtain ⟨r_19, hr_19, h⟩ := bd_ex h
        refine ro_i (va_runS (As := [.int (C.1 5), .int v_1]) (rest := []) ⟨hx, hb, hml, hown, hts⟩ (kX7_has l G q C (C.1 5) v_1 r_19 hr_19) (va_cwS 2 hts gX7_isKnown_X7_has rfl rfl rfl (by decide +kernel) ⟨Nat.le_of_ble_eq_true rfl, Nat.le_of_ble_eq_true rfl⟩) (roS hP hK) rfl rfl hl.1 rfl (lv_room (Nat.le_of_ble_eq_true rfl)) dX7_isKnown_59 ⟨Nat.zero_le _, Nat.zero_le _⟩) ?_
        refine lv_if_eq (tgt := 74) hx hb dX7_isKnown_62 (by decide) (fun c_62 => ?_) (fun c_62 => ?_)
        · have h := br_T h c_62
          exact wX7_isKnown_74 bx hA hK C x1 v_1 h hP hD hS _ (lv_sub hl [1, 2, 0] rfl)
        · have h := br_F h c_62
          refine lv_aload_n hx hb dX7_isKnown_65 rfl (lv_at hl 1 rfl) ?_
          refine lv_iload_n hx hb dX7_isKnown_66 rfl (lv_at hl 2 rfl) ?_
          refine lv_iconst (v := 1) hx hb dX7_isKnown_67 (by decide) ?_
          refine lv_bipush (v := 109) hx hb dX7_isKnown_68 (by decide) ?_
          obtain ⟨u_20, hu_20, h⟩ := bd_ex h
          refine wr_i (Wd := MW G q) (va_runV (As := [.int x1, .int 1, .int 109]) (rest := []) ⟨hx, hb, hml, hown, hts⟩ (kX7_becomes l G q C _ x1 1 109 u_20 hu_20) (cwV 3 hts gX7_isKnown_X7_becomes rfl rfl rfl (by decide +kernel) ⟨Nat.le_of_ble_eq_true rfl, Nat.le_of_ble_eq_true rfl⟩) (wrV hP hD hK 8 0 rfl rfl) rfl rfl hl.1 rfl (lv_room (Nat.le_of_ble_eq_true rfl)) dX7_isKnown_70 ⟨Nat.zero_le _, Nat.zero_le _⟩) hD hS hA (fun _ => rfl) (fun H locs hP hD hS => ?_)
          obtain ⟨g73, h⟩ := gd_ex h
          exact MQi.end hx hb hr hlocks hP hS dX7_isKnown_73 (okZ_n g73) h
    · have h := br_F h c_33
      refine lv_aload_n hx hb dX7_isKnown_36 rfl (lv_at hl 1 rfl) ?_
      refine lv_iload_n hx hb dX7_isKnown_37 rfl (lv_at hl 2 rfl) ?_
      refine lv_iconst (v := 0) hx hb dX7_isKnown_38 (by decide) ?_
      refine lv_bipush (v := 112) hx hb dX7_isKnown_39 (by decide) ?_
      obtain ⟨u_21, hu_21, h⟩ := bd_ex h
      refine wr_i (Wd := MW G q) (va_runV (As := [.int x1, .int 0, .int 112]) (rest := []) ⟨hx, hb, hml, hown, hts⟩ (kX7_becomes l G q C _ x1 0 112 u_21 hu_21) (cwV 3 hts gX7_isKnown_X7_becomes rfl rfl rfl (by decide +kernel) ⟨Nat.le_of_ble_eq_true rfl, Nat.le_of_ble_eq_true rfl⟩) (wrV hP hD hK 8 0 rfl rfl) rfl rfl hl.1 rfl (lv_room (Nat.le_of_ble_eq_true rfl)) dX7_isKnown_41 ⟨Nat.zero_le _, Nat.zero_le _⟩) hD hS hA (fun _ => rfl) (fun H locs hP hD hS => ?_)
      obtain ⟨g44, h⟩ := gd_ex h
      exact MQi.end hx hb hr hlocks hP hS dX7_isKnown_44 (okZ_n g44) h
  · have h := br_F h c_13
    refine lv_aload_n hx hb dX7_isKnown_16 rfl (lv_at hl 1 rfl) ?_
    refine lv_iload_n hx hb dX7_isKnown_17 rfl (lv_at hl 2 rfl) ?_
    refine lv_iconst (v := 1) hx hb dX7_isKnown_18 (by decide) ?_
    refine lv_bipush (v := 99) hx hb dX7_isKnown_19 (by decide) ?_
    obtain ⟨u_22, hu_22, h⟩ := bd_ex h
    refine wr_i (Wd := MW G q) (va_runV (As := [.int x1, .int 1, .int 99]) (rest := []) ⟨hx, hb, hml, hown, hts⟩ (kX7_becomes l G q C _ x1 1 99 u_22 hu_22) (cwV 3 hts gX7_isKnown_X7_becomes rfl rfl rfl (by decide +kernel) ⟨Nat.le_of_ble_eq_true rfl, Nat.le_of_ble_eq_true rfl⟩) (wrV hP hD hK 8 0 rfl rfl) rfl rfl hl.1 rfl (lv_room (Nat.le_of_ble_eq_true rfl)) dX7_isKnown_21 ⟨Nat.zero_le _, Nat.zero_le _⟩) hD hS hA (fun _ => rfl) (fun H locs hP hD hS => ?_)
    obtain ⟨g24, h⟩ := gd_ex h
    exact MQi.end hx hb hr hlocks hP hS dX7_isKnown_24 (okZ_n g24) h

def rmX7_deduces : Room := { frames := 3, cells := 0, slots := 0, locals := 69 }

theorem in_wsX7_deduces_X7 : ∀ w ∈ u_ws RX7 TX7 24, w ∈ wsX7_deduces := by decide +kernel

set_option maxHeartbeats 4000000 in
set_option maxRecDepth 100000 in
theorem wX7_deduces_105 {p : Program} {l : Launch} {e : Env} {s : State} {m : MethodId} {args : Array Value} {below : List Frame} {meth : Method} {c : Code} {G : GT} {q : Nat → Nat} {A : Nat → Prop} {out : St} (bx : BX p RX7 wsX7_deduces cX7_deduces 2 none s m args meth c) (hA : ∀ q : Nat, s.heap.size ≤ q → A q) (hK : CK G s) {k66 : St → Int32 → Option (St)} (hk66 : ∀ (C : St) (x1 : Int32), k66 C x1 = some out → ∀ (H : Heap) (locs : List Loc) (hP : va_P G.1 vwCl (MW G q C) H) (hD : va_D A (MW G q C)) (hS : va_S A s.heap H locs), ∀ (ls : Array Slot), lv_has ls 2 [(0, .ref (q 0)), (1, .int x1)] → W p l e rmX7_deduces s m args below meth c H locs 0 0 (MQv G (MW G q) A s args below out) (F0 m 66 ls [])) (C : St) (t0 : Int32) (h : pX7_deduces_105 k66 C t0 = some out) {H : Heap} {locs : List Loc} (hP : va_P G.1 vwCl (MW G q C) H) (hD : va_D A (MW G q C)) (hS : va_S A s.heap H locs) (ls : Array Slot) (hl : lv_has ls 2 [(0, .ref (q 0))]) : W p l e rmX7_deduces s m args below meth c H locs 0 0 (MQv G (MW G q) A s args below out) (F0 m 105 ls [.int t0]) := by
  obtain ⟨hx, hb, hr, hts, hown, hml, hlocks⟩ := id bx
  unfold pX7_deduces_105 at h
  refine lv_istore_n (lv' := [(1, .int t0), (0, .ref (q 0))]) hx hb dX7_deduces_105 rfl hl (by decide) rfl (fun ls hl => ?_)
  refine lv_goto (tgt := 66) hx hb dX7_deduces_106 (by decide) ?_
  exact hk66 C t0 h _ _ hP hD hS _ (lv_sub hl [1, 0] rfl)

set_option maxHeartbeats 4000000 in
set_option maxRecDepth 100000 in
theorem wX7_deduces_102 {p : Program} {l : Launch} {e : Env} {s : State} {m : MethodId} {args : Array Value} {below : List Frame} {meth : Method} {c : Code} {G : GT} {q : Nat → Nat} {A : Nat → Prop} {out : St} (bx : BX p RX7 wsX7_deduces cX7_deduces 2 none s m args meth c) (hA : ∀ q : Nat, s.heap.size ≤ q → A q) (hK : CK G s) {k66 : St → Int32 → Option (St)} (hk66 : ∀ (C : St) (x1 : Int32), k66 C x1 = some out → ∀ (H : Heap) (locs : List Loc) (hP : va_P G.1 vwCl (MW G q C) H) (hD : va_D A (MW G q C)) (hS : va_S A s.heap H locs), ∀ (ls : Array Slot), lv_has ls 2 [(0, .ref (q 0)), (1, .int x1)] → W p l e rmX7_deduces s m args below meth c H locs 0 0 (MQv G (MW G q) A s args below out) (F0 m 66 ls [])) (C : St) (x1 : Int32) (h : pX7_deduces_102 k66 C x1 = some out) {H : Heap} {locs : List Loc} (hP : va_P G.1 vwCl (MW G q C) H) (hD : va_D A (MW G q C)) (hS : va_S A s.heap H locs) (ls : Array Slot) (hl : lv_has ls 2 [(0, .ref (q 0)), (1, .int x1)]) : W p l e rmX7_deduces s m args below meth c H locs 0 0 (MQv G (MW G q) A s args below out) (F0 m 102 ls []) := by
  obtain ⟨hx, hb, hr, hts, hown, hml, hlocks⟩ := id bx
  unfold pX7_deduces_102 at h
  refine lv_iload_n hx hb dX7_deduces_102 rfl (lv_at hl 1 rfl) ?_
  refine lv_iconst (v := 1) hx hb dX7_deduces_103 (by decide) ?_
  refine lv_iadd hx hb dX7_deduces_104 ?_
  exact wX7_deduces_105 bx hA hK hk66 C (x1 + 1) h hP hD hS _ (lv_sub hl [0] rfl)

set_option maxHeartbeats 4000000 in
set_option maxRecDepth 100000 in
theorem wX7_deduces_66_b {p : Program} {l : Launch} {e : Env} {s : State} {m : MethodId} {args : Array Value} {below : List Frame} {meth : Method} {c : Code} {G : GT} {q : Nat → Nat} {A : Nat → Prop} {out : St} (bx : BX p RX7 wsX7_deduces cX7_deduces 2 none s m args meth c) (hA : ∀ q : Nat, s.heap.size ≤ q → A q) (hK : CK G s) {k66 : St → Int32 → Option (St)} (hk66 : ∀ (C : St) (x1 : Int32), k66 C x1 = some out → ∀ (H : Heap) (locs : List Loc) (hP : va_P G.1 vwCl (MW G q C) H) (hD : va_D A (MW G q C)) (hS : va_S A s.heap H locs), ∀ (ls : Array Slot), lv_has ls 2 [(0, .ref (q 0)), (1, .int x1)] → W p l e rmX7_deduces s m args below meth c H locs 0 0 (MQv G (MW G q) A s args below out) (F0 m 66 ls [])) (C : St) (x1 : Int32) (h : pX7_deduces_66_b k66 C x1 = some out) {H : Heap} {locs : List Loc} (hP : va_P G.1 vwCl (MW G q C) H) (hD : va_D A (MW G q C)) (hS : va_S A s.heap H locs) (ls : Array Slot) (hl : lv_has ls 2 [(0, .ref (q 0)), (1, .int x1)]) : W p l e rmX7_deduces s m args below meth c H locs 0 0 (MQv G (MW G q) A s args below out) (F0 m 66 ls []) := by
  obtain ⟨hx, hb, hr, hts, hown, hml, hlocks⟩ := id bx
  unfold pX7_deduces_66_b at h
  refine lv_iload_n hx hb dX7_deduces_66 rfl (lv_at hl 1 rfl) ?_
  refine lv_aload_n hx hb dX7_deduces_67 rfl (lv_at hl 0 rfl) ?_
  refine va_get (D := G.1) (ci := 8) (v := .int (C.1 0)) (C := RX7) (T := TX7) (N := 24) hx hb hts in_wsX7_deduces_X7 hown hK.1 hP 0 rfl rfl 16 (by decide) (w_mem hts 5 rfl) (fun _ h9 => h9) rfl dX7_deduces_68 ?_
  refine lv_icmp_ge (tgt := 109) hx hb dX7_deduces_71 (by decide) (fun c_71 => ?_) (fun c_71 => ?_)
  · have h := br_T h c_71
    exact MQv.end hx hb hr hlocks hP hS dX7_deduces_109 h
  · have h := br_F h c_71
    refine lv_aload_n hx hb dX7_deduces_74 rfl (lv_at hl 0 rfl) ?_
    refine va_get (D := G.1) (ci := 8) (v := .int (C.1 5)) (C := RX7) (T := TX7) (N := 24) hx hb hts in_wsX7_deduces_X7 hown hK.1 hP 0 rfl rfl 21 (by decide) (w_mem hts 2 rfl) (fun _ h9 => h9) rfl dX7_deduces_75 ?_
    refine lv_aload_n hx hb dX7_deduces_78 rfl (lv_at hl 0 rfl) ?_
    refine va_get (D := G.1) (ci := 8) (v := .int (C.1 6)) (C := RX7) (T := TX7) (N := 24) hx hb hts in_wsX7_deduces_X7 hown hK.1 hP 0 rfl rfl 22 (by decide) (w_mem hts 4 rfl) (fun _ h9 => h9) rfl dX7_deduces_79 ?_
    refine lv_ior hx hb dX7_deduces_82 ?_
    refine lv_iload_n hx hb dX7_deduces_83 rfl (lv_at hl 1 rfl) ?_
    obtain ⟨r_3, hr_3, h⟩ := bd_ex h
    refine ro_i (va_runS (As := [.int ((C.1 5) ||| (C.1 6)), .int x1]) (rest := []) ⟨hx, hb, hml, hown, hts⟩ (kX7_has l G q C ((C.1 5) ||| (C.1 6)) x1 r_3 hr_3) (va_cwS 2 hts gX7_deduces_X7_has rfl rfl rfl (by decide +kernel) ⟨Nat.le_of_ble_eq_true rfl, Nat.le_of_ble_eq_true rfl⟩) (roS hP hK) rfl rfl hl.1 rfl (lv_room (Nat.le_of_ble_eq_true rfl)) dX7_deduces_84 ⟨Nat.zero_le _, Nat.zero_le _⟩) ?_
    refine lv_if_ne (tgt := 102) hx hb dX7_deduces_87 (by decide) (fun c_87 => ?_) (fun c_87 => ?_)
    · have h := br_F h c_87
      exact wX7_deduces_102 bx hA hK hk66 C x1 h hP hD hS _ (lv_sub hl [0, 1] rfl)
    · have h := br_T h c_87
      refine lv_aload_n hx hb dX7_deduces_90 rfl (lv_at hl 0 rfl) ?_
      refine lv_iload_n hx hb dX7_deduces_91 rfl (lv_at hl 1 rfl) ?_
      obtain ⟨u_4, hu_4, h⟩ := bd_ex h
      refine wr_i (Wd := MW G q) (va_runV (As := [.int x1]) (rest := []) ⟨hx, hb, hml, hown, hts⟩ (kX7_isKnown l G q C _ x1 u_4 hu_4) (cwV 1 hts gX7_deduces_X7_isKnown rfl rfl rfl (by decide +kernel) ⟨Nat.le_of_ble_eq_true rfl, Nat.le_of_ble_eq_true rfl⟩) (wrV hP hD hK 8 0 rfl rfl) rfl rfl hl.1 rfl (lv_room (Nat.le_of_ble_eq_true rfl)) dX7_deduces_92 ⟨Nat.zero_le _, Nat.zero_le _⟩) hD hS hA (fun _ => rfl) (fun H locs hP hD hS => ?_)
      refine lv_if_eq (tgt := 102) hx hb dX7_deduces_95 (by decide) (fun c_95 => ?_) (fun c_95 => ?_)
      · have h := br_T h c_95
        exact wX7_deduces_102 bx hA hK hk66 u_4.2 x1 h hP hD hS _ (lv_sub hl [0, 1] rfl)
      · have h := br_F h c_95
        refine lv_iconst (v := 1) hx hb dX7_deduces_98 (by decide) ?_
        refine lv_goto (tgt := 105) hx hb dX7_deduces_99 (by decide) ?_
        exact wX7_deduces_105 bx hA hK hk66 u_4.2 1 h hP hD hS _ (lv_sub hl [0] rfl)

theorem wX7_deduces_66 {p : Program} {l : Launch} {e : Env} {s : State} {m : MethodId} {args : Array Value} {below : List Frame} {meth : Method} {c : Code} {G : GT} {q : Nat → Nat} {A : Nat → Prop} {out : St} (bx : BX p RX7 wsX7_deduces cX7_deduces 2 none s m args meth c) (hA : ∀ q : Nat, s.heap.size ≤ q → A q) (hK : CK G s) :
    ∀ (n : Nat) (C : St) (x1 : Int32), pX7_deduces_66 n C x1 = some out → ∀ (H : Heap) (locs : List Loc) (hP : va_P G.1 vwCl (MW G q C) H) (hD : va_D A (MW G q C)) (hS : va_S A s.heap H locs), ∀ (ls : Array Slot), lv_has ls 2 [(0, .ref (q 0)), (1, .int x1)] → W p l e rmX7_deduces s m args below meth c H locs 0 0 (MQv G (MW G q) A s args below out) (F0 m 66 ls []) := by
  intro n
  induction n with
  | zero => intro _ _ h; cases h
  | succ n ih => exact fun a0 a1 h _ _ hP hD hS ls hl => wX7_deduces_66_b bx hA hK ih a0 a1 h hP hD hS ls hl

set_option maxHeartbeats 4000000 in
set_option maxRecDepth 100000 in
theorem wX7_deduces_57 {p : Program} {l : Launch} {e : Env} {s : State} {m : MethodId} {args : Array Value} {below : List Frame} {meth : Method} {c : Code} {G : GT} {q : Nat → Nat} {A : Nat → Prop} {out : St} (bx : BX p RX7 wsX7_deduces cX7_deduces 2 none s m args meth c) (hA : ∀ q : Nat, s.heap.size ≤ q → A q) (hK : CK G s) {k20 : St → Int32 → Option (St)} (hk20 : ∀ (C : St) (x1 : Int32), k20 C x1 = some out → ∀ (H : Heap) (locs : List Loc) (hP : va_P G.1 vwCl (MW G q C) H) (hD : va_D A (MW G q C)) (hS : va_S A s.heap H locs), ∀ (ls : Array Slot), lv_has ls 2 [(0, .ref (q 0)), (1, .int x1)] → W p l e rmX7_deduces s m args below meth c H locs 0 0 (MQv G (MW G q) A s args below out) (F0 m 20 ls [])) (C : St) (x1 : Int32) (t1 : Int32) (t2 : Int32) (h : pX7_deduces_57 k20 C x1 t1 t2 = some out) {H : Heap} {locs : List Loc} (hP : va_P G.1 vwCl (MW G q C) H) (hD : va_D A (MW G q C)) (hS : va_S A s.heap H locs) (ls : Array Slot) (hl : lv_has ls 2 [(0, .ref (q 0)), (1, .int x1)]) : W p l e rmX7_deduces s m args below meth c H locs 0 0 (MQv G (MW G q) A s args below out) (F0 m 57 ls [.int t2, .int t1, .ref (q 9)]) := by
  obtain ⟨hx, hb, hr, hts, hown, hml, hlocks⟩ := id bx
  unfold pX7_deduces_57 at h
  obtain ⟨g57, h⟩ := gd_ex h
  refine va_cast (D := G.1) hx hb hK.1 hP hD hS 9 1 rfl rfl g57 dX7_deduces_57 (fun H locs hP hD hS => ?_)
  have hP : va_P G.1 vwCl (MW G q (sA C 8 t1.toNatClampNeg (vp_nar .char t2))) H := hP
  have hD : va_D A (MW G q (sA C 8 t1.toNatClampNeg (vp_nar .char t2))) := hD
  obtain ⟨C_6, eC_6, h⟩ := ltv_ex h
  rw [← eC_6] at hP hD
  obtain ⟨v_7, ev_7, h⟩ := ltv_ex h
  refine lv_iinc (v := v_7) (lv' := [(1, .int v_7), (0, .ref (q 0))]) hx hb dX7_deduces_58 hl (k := 1) rfl (by rw [ev_7]; rfl) (by decide) rfl (fun ls hl => ?_)
  refine lv_goto (tgt := 20) hx hb dX7_deduces_61 (by decide) ?_
  exact hk20 C_6 v_7 h _ _ hP hD hS _ (lv_sub hl [1, 0] rfl)

set_option maxHeartbeats 4000000 in
set_option maxRecDepth 100000 in
theorem wX7_deduces_20_b {p : Program} {l : Launch} {e : Env} {s : State} {m : MethodId} {args : Array Value} {below : List Frame} {meth : Method} {c : Code} {G : GT} {q : Nat → Nat} {A : Nat → Prop} {out : St} (bx : BX p RX7 wsX7_deduces cX7_deduces 2 none s m args meth c) (hA : ∀ q : Nat, s.heap.size ≤ q → A q) (hK : CK G s) {k20 : St → Int32 → Option (St)} (hk20 : ∀ (C : St) (x1 : Int32), k20 C x1 = some out → ∀ (H : Heap) (locs : List Loc) (hP : va_P G.1 vwCl (MW G q C) H) (hD : va_D A (MW G q C)) (hS : va_S A s.heap H locs), ∀ (ls : Array Slot), lv_has ls 2 [(0, .ref (q 0)), (1, .int x1)] → W p l e rmX7_deduces s m args below meth c H locs 0 0 (MQv G (MW G q) A s args below out) (F0 m 20 ls [])) (C : St) (x1 : Int32) (h : pX7_deduces_20_b k20 C x1 = some out) {H : Heap} {locs : List Loc} (hP : va_P G.1 vwCl (MW G q C) H) (hD : va_D A (MW G q C)) (hS : va_S A s.heap H locs) (ls : Array Slot) (hl : lv_has ls 2 [(0, .ref (q 0)), (1, .int x1)]) : W p l e rmX7_deduces s m args below meth c H locs 0 0 (MQv G (MW G q) A s args below out) (F0 m 20 ls []) := by
  obtain ⟨hx, hb, hr, hts, hown, hml, hlocks⟩ := id bx
  unfold pX7_deduces_20_b at h
  refine lv_iload_n hx hb dX7_deduces_20 rfl (lv_at hl 1 rfl) ?_
  refine lv_aload_n hx hb dX7_deduces_21 rfl (lv_at hl 0 rfl) ?_
  refine va_get (D := G.1) (ci := 8) (v := .int (C.1 0)) (C := RX7) (T := TX7) (N := 24) hx hb hts in_wsX7_deduces_X7 hown hK.1 hP 0 rfl rfl 16 (by decide) (w_mem hts 5 rfl) (fun _ h9 => h9) rfl dX7_deduces_22 ?_
  refine lv_icmp_ge (tgt := 64) hx hb dX7_deduces_25 (by decide) (fun c_25 => ?_) (fun c_25 => ?_)
  · have h := br_T h c_25
    refine lv_iconst (v := 1) hx hb dX7_deduces_64 (by decide) ?_
    refine lv_istore_n (lv' := [(1, .int 1), (0, .ref (q 0))]) hx hb dX7_deduces_65 rfl hl (by decide) rfl (fun ls hl => ?_)
    exact wX7_deduces_66 bx hA hK FU C 1 h _ _ hP hD hS _ (lv_sub hl [1, 0] rfl)
  · have h := br_F h c_25
    refine lv_aload_n hx hb dX7_deduces_28 rfl (lv_at hl 0 rfl) ?_
    refine va_get (D := G.1) (ci := 8) (v := .ref (q 9)) (C := RX7) (T := TX7) (N := 24) hx hb hts in_wsX7_deduces_X7 hown hK.1 hP 0 rfl rfl 8 (by decide) (w_mem hts 6 rfl) (fun _ h9 => h9) rfl dX7_deduces_29 ?_
    refine lv_iload_n hx hb dX7_deduces_32 rfl (lv_at hl 1 rfl) ?_
    refine lv_iload_n hx hb dX7_deduces_33 rfl (lv_at hl 1 rfl) ?_
    refine lv_if_ne (tgt := 42) hx hb dX7_deduces_34 (by decide) (fun c_34 => ?_) (fun c_34 => ?_)
    · have h := br_F h c_34
      refine lv_aload_n hx hb dX7_deduces_42 rfl (lv_at hl 0 rfl) ?_
      refine lv_iload_n hx hb dX7_deduces_43 rfl (lv_at hl 1 rfl) ?_
      obtain ⟨r_5, hr_5, h⟩ := bd_ex h
      refine ro_i (va_runV (As := [.int x1]) (rest := [.int x1, .ref (q 9)]) ⟨hx, hb, hml, hown, hts⟩ (kX7_isDecided l G q C x1 r_5 hr_5) (cwV 1 hts gX7_deduces_X7_isDecided rfl rfl rfl (by decide +kernel) ⟨Nat.le_of_ble_eq_true rfl, Nat.le_of_ble_eq_true rfl⟩) (roV hP hK 8 0 rfl rfl) rfl rfl hl.1 rfl (lv_room (Nat.le_of_ble_eq_true rfl)) dX7_deduces_44 ⟨Nat.zero_le _, Nat.zero_le _⟩) ?_
      refine lv_if_eq (tgt := 55) hx hb dX7_deduces_47 (by decide) (fun c_47 => ?_) (fun c_47 => ?_)
      · have h := br_T h c_47
        refine lv_bipush (v := 45) hx hb dX7_deduces_55 (by decide) ?_
        exact wX7_deduces_57 bx hA hK hk20 C x1 x1 45 h hP hD hS _ (lv_sub hl [0, 1] rfl)
      · have h := br_F h c_47
        refine lv_bipush (v := 100) hx hb dX7_deduces_50 (by decide) ?_
        refine lv_goto (tgt := 57) hx hb dX7_deduces_52 (by decide) ?_
        exact wX7_deduces_57 bx hA hK hk20 C x1 x1 100 h hP hD hS _ (lv_sub hl [0, 1] rfl)
    · have h := br_T h c_34
      refine lv_bipush (v := 111) hx hb dX7_deduces_37 (by decide) ?_
      refine lv_goto (tgt := 57) hx hb dX7_deduces_39 (by decide) ?_
      exact wX7_deduces_57 bx hA hK hk20 C x1 x1 111 h hP hD hS _ (lv_sub hl [0, 1] rfl)

theorem wX7_deduces_20 {p : Program} {l : Launch} {e : Env} {s : State} {m : MethodId} {args : Array Value} {below : List Frame} {meth : Method} {c : Code} {G : GT} {q : Nat → Nat} {A : Nat → Prop} {out : St} (bx : BX p RX7 wsX7_deduces cX7_deduces 2 none s m args meth c) (hA : ∀ q : Nat, s.heap.size ≤ q → A q) (hK : CK G s) :
    ∀ (n : Nat) (C : St) (x1 : Int32), pX7_deduces_20 n C x1 = some out → ∀ (H : Heap) (locs : List Loc) (hP : va_P G.1 vwCl (MW G q C) H) (hD : va_D A (MW G q C)) (hS : va_S A s.heap H locs), ∀ (ls : Array Slot), lv_has ls 2 [(0, .ref (q 0)), (1, .int x1)] → W p l e rmX7_deduces s m args below meth c H locs 0 0 (MQv G (MW G q) A s args below out) (F0 m 20 ls []) := by
  intro n
  induction n with
  | zero => intro _ _ h; cases h
  | succ n ih => exact fun a0 a1 h _ _ hP hD hS ls hl => wX7_deduces_20_b bx hA hK ih a0 a1 h hP hD hS ls hl

set_option maxHeartbeats 4000000 in
set_option maxRecDepth 100000 in
theorem kX7_deduces (l : Launch) (G : GT) (q : Nat → Nat) (C : St) (sz : Nat) (r : St) (h : pX7_deduces C = some r) : Met l yX7_deduces wsX7_deduces rmX7_deduces (va_Pc [.ref (q 0)] (wrP G (MW G q C) sz)) (va_Qv (fun u => u = r) (fun u t => va_P G.1 vwCl (MW G q u) t.heap) (va_A (MW G q C) sz)) 0 0 (va_A (MW G q C) sz) := by
  refine Met.ofW (cc := cX7_deduces) (maxL := 2) (ret := none) (by decide) rfl ?_
  intro p e s m args below meth c s₁ B hml hv
  obtain ⟨rfl, hsz, hP, hK, hD0⟩ := hv
  have bx := bx_of B hml
  subst hsz
  have hD := hD0.self (sz := s.heap.size)
  generalize hAe : va_A (MW G q C) s.heap.size = A at hD ⊢
  have hA : ∀ q : Nat, s.heap.size ≤ q → A q := fun q h => by rw [← hAe]; exact Or.inr h
  have hS : va_S A s.heap s.heap [] := va_S.rf
  obtain ⟨hx, hb, hr, hts, hown, hml, hlocks⟩ := id bx
  have hl := lv_entry ([.ref (q 0)]) (n := 2) (Nat.le_of_ble_eq_true rfl)
  rw [lg_entry_eq]
  generalize (lg_sl ([.ref (q 0)]) ++ List.replicate (2 - (lg_sl ([.ref (q 0)])).length) Slot.unset).toArray = ls at hl ⊢
  have hl : lv_has ls 2 [(0, .ref (q 0))] := hl
  show W p l e rmX7_deduces s m _ below meth c s.heap [] 0 0 (MQv G (MW G q) A s _ below r) (F0 m 0 ls [])
  unfold pX7_deduces at h
  refine lv_aload_n hx hb dX7_deduces_0 rfl (lv_at hl 0 rfl) ?_
  refine lv_iconst (v := 1) hx hb dX7_deduces_1 (by decide) ?_
  refine lv_aload_n hx hb dX7_deduces_2 rfl (lv_at hl 0 rfl) ?_
  refine va_get (D := G.1) (ci := 8) (v := .int (C.1 3)) (C := RX7) (T := TX7) (N := 24) hx hb hts in_wsX7_deduces_X7 hown hK.1 hP 0 rfl rfl 19 (by decide) (w_mem hts 1 rfl) (fun _ h9 => h9) rfl dX7_deduces_3 ?_
  refine lv_ior hx hb dX7_deduces_6 ?_
  refine va_put (D := G.1) (ci := 8) (v := .int (1 ||| (C.1 3))) (ty := .int) (C := RX7) (T := TX7) (N := 24) hx hb hts in_wsX7_deduces_X7 tyX7 tyX7_ok nmX7 hown hK.1 hP hD hS 0 rfl rfl 21 (by decide) (w_mem hts 2 rfl) (fun _ h9 => h9) rfl (by decide +kernel) rfl rfl (Nat.le_of_ble_eq_true rfl) dX7_deduces_7 (fun H locs hP hD hS => ?_)
  have hP : va_P G.1 vwCl (MW G q (sS C 5 (1 ||| (C.1 3)))) H := hP
  have hD : va_D A (MW G q (sS C 5 (1 ||| (C.1 3)))) := hD
  obtain ⟨C_1, eC_1, h⟩ := ltv_ex h
  rw [← eC_1] at hP hD
  refine lv_aload_n hx hb dX7_deduces_10 rfl (lv_at hl 0 rfl) ?_
  refine lv_aload_n hx hb dX7_deduces_11 rfl (lv_at hl 0 rfl) ?_
  refine va_get (D := G.1) (ci := 8) (v := .int (C_1.1 4)) (C := RX7) (T := TX7) (N := 24) hx hb hts in_wsX7_deduces_X7 hown hK.1 hP 0 rfl rfl 20 (by decide) (w_mem hts 3 rfl) (fun _ h9 => h9) rfl dX7_deduces_12 ?_
  refine va_put (D := G.1) (ci := 8) (v := .int (C_1.1 4)) (ty := .int) (C := RX7) (T := TX7) (N := 24) hx hb hts in_wsX7_deduces_X7 tyX7 tyX7_ok nmX7 hown hK.1 hP hD hS 0 rfl rfl 22 (by decide) (w_mem hts 4 rfl) (fun _ h9 => h9) rfl (by decide +kernel) rfl rfl (Nat.le_of_ble_eq_true rfl) dX7_deduces_15 (fun H locs hP hD hS => ?_)
  have hP : va_P G.1 vwCl (MW G q (sS C_1 6 (C_1.1 4))) H := hP
  have hD : va_D A (MW G q (sS C_1 6 (C_1.1 4))) := hD
  obtain ⟨C_2, eC_2, h⟩ := ltv_ex h
  rw [← eC_2] at hP hD
  refine lv_iconst (v := 0) hx hb dX7_deduces_18 (by decide) ?_
  refine lv_istore_n (lv' := [(1, .int 0), (0, .ref (q 0))]) hx hb dX7_deduces_19 rfl hl (by decide) rfl (fun ls hl => ?_)
  exact wX7_deduces_20 bx hA hK FU C_2 0 h _ _ hP hD hS _ (lv_sub hl [1, 0] rfl)

def rmX7_unknowns : Room := { frames := 4, cells := 0, slots := 0, locals := 90 }

theorem in_wsX7_unknowns_X7 : ∀ w ∈ u_ws RX7 TX7 24, w ∈ wsX7_unknowns := by decide +kernel

set_option maxHeartbeats 4000000 in
set_option maxRecDepth 100000 in
theorem kX7_unknowns (l : Launch) (G : GT) (q : Nat → Nat) (C : St) (sz : Nat) (r : Int32 × St) (h : pX7_unknowns C = some r) : Met l yX7_unknowns wsX7_unknowns rmX7_unknowns (va_Pc [.ref (q 0)] (wrP G (MW G q C) sz)) (va_Qi (fun v u => (v, u) = r) (fun u t => va_P G.1 vwCl (MW G q u) t.heap) (va_A (MW G q C) sz)) 0 0 (va_A (MW G q C) sz) := by
  refine Met.ofW (cc := cX7_unknowns) (maxL := 1) (ret := (some .int)) (by decide) rfl ?_
  intro p e s m args below meth c s₁ B hml hv
  obtain ⟨rfl, hsz, hP, hK, hD0⟩ := hv
  have bx := bx_of B hml
  subst hsz
  have hD := hD0.self (sz := s.heap.size)
  generalize hAe : va_A (MW G q C) s.heap.size = A at hD ⊢
  have hA : ∀ q : Nat, s.heap.size ≤ q → A q := fun q h => by rw [← hAe]; exact Or.inr h
  have hS : va_S A s.heap s.heap [] := va_S.rf
  obtain ⟨hx, hb, hr, hts, hown, hml, hlocks⟩ := id bx
  have hl := lv_entry ([.ref (q 0)]) (n := 1) (Nat.le_of_ble_eq_true rfl)
  rw [lg_entry_eq]
  generalize (lg_sl ([.ref (q 0)]) ++ List.replicate (1 - (lg_sl ([.ref (q 0)])).length) Slot.unset).toArray = ls at hl ⊢
  have hl : lv_has ls 1 [(0, .ref (q 0))] := hl
  show W p l e rmX7_unknowns s m _ below meth c s.heap [] 0 0 (MQi G (MW G q) A s _ below r) (F0 m 0 ls [])
  unfold pX7_unknowns at h
  refine lv_aload_n hx hb dX7_unknowns_0 rfl (lv_at hl 0 rfl) ?_
  obtain ⟨u_1, hu_1, h⟩ := bd_ex h
  refine wr_v (Wd := MW G q) (va_runV (As := []) (rest := []) ⟨hx, hb, hml, hown, hts⟩ (kX7_deduces l G q C _ u_1 hu_1) (cwV 0 hts gX7_unknowns_X7_deduces rfl rfl rfl (by decide +kernel) ⟨Nat.le_of_ble_eq_true rfl, Nat.le_of_ble_eq_true rfl⟩) (wrV hP hD hK 8 0 rfl rfl) rfl rfl hl.1 rfl (lv_room (Nat.le_of_ble_eq_true rfl)) dX7_unknowns_1 ⟨Nat.zero_le _, Nat.zero_le _⟩) hD hS hA (fun _ => rfl) (fun H locs hP hD hS => ?_)
  refine lv_aload_n hx hb dX7_unknowns_4 rfl (lv_at hl 0 rfl) ?_
  refine va_get (D := G.1) (ci := 8) (v := .int (u_1.1 0)) (C := RX7) (T := TX7) (N := 24) hx hb hts in_wsX7_unknowns_X7 hown hK.1 hP 0 rfl rfl 16 (by decide) (w_mem hts 1 rfl) (fun _ h9 => h9) rfl dX7_unknowns_5 ?_
  refine lv_aload_n hx hb dX7_unknowns_8 rfl (lv_at hl 0 rfl) ?_
  refine va_get (D := G.1) (ci := 8) (v := .int (u_1.1 5)) (C := RX7) (T := TX7) (N := 24) hx hb hts in_wsX7_unknowns_X7 hown hK.1 hP 0 rfl rfl 21 (by decide) (w_mem hts 2 rfl) (fun _ h9 => h9) rfl dX7_unknowns_9 ?_
  refine lv_aload_n hx hb dX7_unknowns_12 rfl (lv_at hl 0 rfl) ?_
  refine va_get (D := G.1) (ci := 8) (v := .int (u_1.1 6)) (C := RX7) (T := TX7) (N := 24) hx hb hts in_wsX7_unknowns_X7 hown hK.1 hP 0 rfl rfl 22 (by decide) (w_mem hts 3 rfl) (fun _ h9 => h9) rfl dX7_unknowns_13 ?_
  refine lv_ior hx hb dX7_unknowns_16 ?_
  obtain ⟨r_2, hr_2, h⟩ := bd_ex h
  refine ro_i (va_runS (As := [.int ((u_1.1 5) ||| (u_1.1 6))]) (rest := [.int (u_1.1 0)]) ⟨hx, hb, hml, hown, hts⟩ (kJ6_bitCount_0f7a4 l ((u_1.1 5) ||| (u_1.1 6)) r_2 hr_2) (va_cwS 1 hts gX7_unknowns_J6_bitCount_0f7a4 rfl rfl rfl (by decide +kernel) ⟨Nat.le_of_ble_eq_true rfl, Nat.le_of_ble_eq_true rfl⟩) noS rfl rfl hl.1 rfl (lv_room (Nat.le_of_ble_eq_true rfl)) dX7_unknowns_17 ⟨Nat.zero_le _, Nat.zero_le _⟩) ?_
  refine lv_isub hx hb dX7_unknowns_20 ?_
  exact MQi.end hx hb hr hlocks hP hS dX7_unknowns_21 rfl h
