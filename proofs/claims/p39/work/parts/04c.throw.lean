def rmX6_checkFeature : Room := { frames := 0, cells := 0, slots := 0, locals := 0 }

theorem in_wsX6_checkFeature_X6 : ∀ w ∈ u_ws RX6 TX6 7, w ∈ wsX6_checkFeature := by decide +kernel

theorem in_wsX6_checkFeature_X5 : ∀ w ∈ u_ws RX5 TX5 6, w ∈ wsX6_checkFeature := by decide +kernel

set_option maxHeartbeats 4000000 in
set_option maxRecDepth 100000 in
theorem wX6_checkFeature_15 {p : Program} {l : Launch} {e : Env} {s : State} {m : MethodId} {args : Array Value} {below : List Frame} {meth : Method} {c : Code} {G : GT} {q : Nat → Nat} {C : St} {out : Unit} (bx : BX p RX6 wsX6_checkFeature cX6_checkFeature 2 none s m args meth c) (hP : va_P G.1 vwCl (CW G q C) s.heap) (hK : CK G s) (h : pX6_checkFeature_15 C = some (.inr out)) (ls : Array Slot) (hl : lv_has ls 2 []) : GoV p l e rmX6_checkFeature s m args below meth c out (F0 m 15 ls []) := by
  obtain ⟨hx, hb, hr, hts, hown, hml, hlocks⟩ := id bx
  unfold pX6_checkFeature_15 at h
  cases h

set_option maxHeartbeats 4000000 in
set_option maxRecDepth 100000 in
theorem kX6_checkFeature (l : Launch) (G : GT) (q : Nat → Nat) (C : St) (x1 : Int32) (r : Unit) (h : pX6_checkFeature C x1 = some (.inr r)) : Met l yX6_checkFeature wsX6_checkFeature rmX6_checkFeature (va_Pc [.ref (q 0), .int x1] (roP G (CW G q C))) (va_Sv (fun _ => True)) 0 0 (fun _ => False) := by
  refine Met.ofW (cc := cX6_checkFeature) (maxL := 2) (ret := none) (by decide) rfl ?_
  intro p e s m args below meth c s₁ B hml hv
  obtain ⟨rfl, hP, hK⟩ := hv
  have bx := bx_of B hml
  obtain ⟨hx, hb, hr, hts, hown, hml, hlocks⟩ := id bx
  have hl := lv_entry ([.ref (q 0), .int x1]) (n := 2) (Nat.le_of_ble_eq_true rfl)
  rw [lg_entry_eq]
  generalize (lg_sl ([.ref (q 0), .int x1]) ++ List.replicate (2 - (lg_sl ([.ref (q 0), .int x1])).length) Slot.unset).toArray = ls at hl ⊢
  have hl : lv_has ls 2 [(0, .ref (q 0)), (1, .int x1)] := hl
  show GoV p l e rmX6_checkFeature s m _ below meth c r (F0 m 0 ls [])
  unfold pX6_checkFeature at h
  refine lv_iload_n hx hb dX6_checkFeature_0 rfl (lv_at hl 1 rfl) ?_
  refine lv_if_lt (tgt := 15) hx hb dX6_checkFeature_1 (by decide) (fun c_1 => ?_) (fun c_1 => ?_)
  · have h := br_T h c_1
    exact wX6_checkFeature_15 bx hP hK  h _ (lv_sub hl [] rfl)
  · have h := br_F h c_1
    refine lv_iload_n hx hb dX6_checkFeature_4 rfl (lv_at hl 1 rfl) ?_
    refine lv_aload_n hx hb dX6_checkFeature_5 rfl (lv_at hl 0 rfl) ?_
    refine va_get (D := G.1) (ci := 5) (v := .ref (q 1)) (C := RX6) (T := TX6) (N := 7) hx hb hts in_wsX6_checkFeature_X6 hown hK.1 hP 0 rfl rfl 0 (by decide) (w_mem hts 3 rfl) (fun _ h9 => h9) rfl dX6_checkFeature_6 ?_
    refine va_getN (D := G.1) (ci := 4) (v := .int (C.1 3)) (C := RX5) (T := TX5) (N := 6) hx hb hts in_wsX6_checkFeature_X5 hown hK.1 hP 1 rfl rfl 5 (by decide) (hK.2.at 23 rfl) (fun _ h9 => h9) rfl dX6_checkFeature_9 ?_
    refine lv_icmp_lt (tgt := 26) hx hb dX6_checkFeature_12 (by decide) (fun c_12 => ?_) (fun c_12 => ?_)
    · have h := br_T h c_12
      exact GoV.end (out := ()) hx hb hr hlocks dX6_checkFeature_26
    · have h := br_F h c_12
      exact wX6_checkFeature_15 bx hP hK  h _ (lv_sub hl [] rfl)

def rxX6_checkFeature : Room := { frames := 6, cells := 1, slots := 6, locals := 100 }

set_option maxHeartbeats 4000000 in
set_option maxRecDepth 100000 in
theorem xX6_checkFeature_15 {p : Program} {l : Launch} {e : Env} {s : State} {m : MethodId} {args : Array Value} {below : List Frame} {meth : Method} {c : Code} {G : GT} {q : Nat → Nat} {A : Nat → Prop} {out : Nat} (bx : BX p RX6 wsX6_checkFeature cX6_checkFeature 2 none s m args meth c) (hA : ∀ q : Nat, s.heap.size ≤ q → A q) (hK : CK G s) (hl0 : l.stackTraces = false) (hE : XE A s) (hex : ∀ x ∈ c.exceptionTable.toList, False) (C : St) (h : pX6_checkFeature_15 C = some (.inl out)) {H : Heap} {locs : List Loc} (hP : va_P G.1 vwCl (CW G q C) H) (hD : va_D A (CW G q C)) (hS : va_S A s.heap H locs) (ls : Array Slot) (hl : lv_has ls 2 []) : W p l e rxX6_checkFeature s m args below meth c H locs 0 0 (MQx G (CW G q) A s args below (out, C)) (F0 m 15 ls []) := by
  obtain ⟨hx, hb, hr, hts, hown, hml, hlocks⟩ := id bx
  unfold pX6_checkFeature_15 at h
  exact x_throwSW (Wd := CW G q) (C := C) (k := 1) (cls := "java/lang/IndexOutOfBoundsException") (text := "there is no such feature") hx hb hl0 hts hown hml hlocks hex hK hE hP hS hl (by decide +kernel) (w_mem hts 1 rfl) (w_mem hts 2 rfl) (List.mem_of_getElem? (i := 7) rfl) (fun w h => List.mem_cons_of_mem _ (List.mem_append_right _ h)) xB_247 xG_247_243 dX6_checkFeature_15 dX6_checkFeature_18 dX6_checkFeature_19 dX6_checkFeature_22 dX6_checkFeature_25 ⟨Nat.le_of_ble_eq_true rfl, Nat.le_of_ble_eq_true rfl, Nat.le_of_ble_eq_true rfl, Nat.le_of_ble_eq_true rfl⟩ ((congrArg (fun z => (z, C)) (xl_ h)).symm) rfl

set_option maxHeartbeats 4000000 in
set_option maxRecDepth 100000 in
theorem xX6_checkFeature (l : Launch) (hl0 : l.stackTraces = false) (G : GT) (q : Nat → Nat) (C : St) (sz : Nat) (x1 : Int32) (r : Nat) (h : pX6_checkFeature C x1 = some (.inl r)) : vx_Met l yX6_checkFeature wsX6_checkFeature rxX6_checkFeature (va_Pc [.ref (q 0), .int x1] (xP G (CW G q C) sz)) (fun _ _ _ _ => False) (XCf G (CW G q) (va_A (CW G q C) sz) (r, C)) 1 6 (va_A (CW G q C) sz) := by
  refine vx_ofW (cc := cX6_checkFeature) (maxL := 2) (ret := none) (by decide) rfl ?_
  intro p e s m args below meth c s₁ B hml hex hv
  obtain ⟨rfl, ⟨hsz, hP, hK, hD0⟩, hE⟩ := hv
  have bx := bx_of B hml
  subst hsz
  have hD := hD0.self (sz := s.heap.size)
  generalize hAe : va_A (CW G q C) s.heap.size = A at hD hE ⊢
  have hA : ∀ q : Nat, s.heap.size ≤ q → A q := fun q h => by rw [← hAe]; exact Or.inr h
  have hS : va_S A s.heap s.heap [] := va_S.rf
  obtain ⟨hx, hb, hr, hts, hown, hml, hlocks⟩ := id bx
  have hl := lv_entry ([.ref (q 0), .int x1]) (n := 2) (Nat.le_of_ble_eq_true rfl)
  rw [lg_entry_eq]
  generalize (lg_sl ([.ref (q 0), .int x1]) ++ List.replicate (2 - (lg_sl ([.ref (q 0), .int x1])).length) Slot.unset).toArray = ls at hl ⊢
  have hl : lv_has ls 2 [(0, .ref (q 0)), (1, .int x1)] := hl
  show W p l e rxX6_checkFeature s m _ below meth c s.heap [] 0 0 (MQx G (CW G q) A s _ below (r, C)) (F0 m 0 ls [])
  unfold pX6_checkFeature at h
  refine lv_iload_n hx hb dX6_checkFeature_0 rfl (lv_at hl 1 rfl) ?_
  refine lv_if_lt (tgt := 15) hx hb dX6_checkFeature_1 (by decide) (fun c_1 => ?_) (fun c_1 => ?_)
  · have h := br_T h c_1
    exact xX6_checkFeature_15 bx hA hK hl0 hE hex C h hP hD hS _ (lv_sub hl [] rfl)
  · have h := br_F h c_1
    refine lv_iload_n hx hb dX6_checkFeature_4 rfl (lv_at hl 1 rfl) ?_
    refine lv_aload_n hx hb dX6_checkFeature_5 rfl (lv_at hl 0 rfl) ?_
    refine va_get (D := G.1) (ci := 5) (v := .ref (q 1)) (C := RX6) (T := TX6) (N := 7) hx hb hts in_wsX6_checkFeature_X6 hown hK.1 hP 0 rfl rfl 0 (by decide) (w_mem hts 3 rfl) (fun _ h9 => h9) rfl dX6_checkFeature_6 ?_
    refine va_getN (D := G.1) (ci := 4) (v := .int (C.1 3)) (C := RX5) (T := TX5) (N := 6) hx hb hts in_wsX6_checkFeature_X5 hown hK.1 hP 1 rfl rfl 5 (by decide) (hK.2.at 23 rfl) (fun _ h9 => h9) rfl dX6_checkFeature_9 ?_
    refine lv_icmp_lt (tgt := 26) hx hb dX6_checkFeature_12 (by decide) (fun c_12 => ?_) (fun c_12 => ?_)
    · have h := br_T h c_12
      cases h
    · have h := br_F h c_12
      exact xX6_checkFeature_15 bx hA hK hl0 hE hex C h hP hD hS _ (lv_sub hl [] rfl)

def rmX6_checkNotRoot : Room := { frames := 0, cells := 0, slots := 0, locals := 0 }

set_option maxHeartbeats 4000000 in
set_option maxRecDepth 100000 in
theorem kX6_checkNotRoot (l : Launch) (G : GT) (q : Nat → Nat) (C : St) (x1 : Int32) (r : Unit) (h : pX6_checkNotRoot C x1 = some (.inr r)) : Met l yX6_checkNotRoot wsX6_checkNotRoot rmX6_checkNotRoot (va_Pc [.ref (q 0), .int x1] (roP G (CW G q C))) (va_Sv (fun _ => True)) 0 0 (fun _ => False) := by
  refine Met.ofW (cc := cX6_checkNotRoot) (maxL := 2) (ret := none) (by decide) rfl ?_
  intro p e s m args below meth c s₁ B hml hv
  obtain ⟨rfl, hP, hK⟩ := hv
  have bx := bx_of B hml
  obtain ⟨hx, hb, hr, hts, hown, hml, hlocks⟩ := id bx
  have hl := lv_entry ([.ref (q 0), .int x1]) (n := 2) (Nat.le_of_ble_eq_true rfl)
  rw [lg_entry_eq]
  generalize (lg_sl ([.ref (q 0), .int x1]) ++ List.replicate (2 - (lg_sl ([.ref (q 0), .int x1])).length) Slot.unset).toArray = ls at hl ⊢
  have hl : lv_has ls 2 [(0, .ref (q 0)), (1, .int x1)] := hl
  show GoV p l e rmX6_checkNotRoot s m _ below meth c r (F0 m 0 ls [])
  unfold pX6_checkNotRoot at h
  refine lv_iload_n hx hb dX6_checkNotRoot_0 rfl (lv_at hl 1 rfl) ?_
  refine lv_if_ne (tgt := 15) hx hb dX6_checkNotRoot_1 (by decide) (fun c_1 => ?_) (fun c_1 => ?_)
  · have h := br_F h c_1
    exact GoV.end (out := ()) hx hb hr hlocks dX6_checkNotRoot_15
  · have h := br_T h c_1
    cases h

def rxX6_checkNotRoot : Room := { frames := 6, cells := 1, slots := 6, locals := 100 }

set_option maxHeartbeats 4000000 in
set_option maxRecDepth 100000 in
theorem xX6_checkNotRoot (l : Launch) (hl0 : l.stackTraces = false) (G : GT) (q : Nat → Nat) (C : St) (sz : Nat) (x1 : Int32) (r : Nat) (h : pX6_checkNotRoot C x1 = some (.inl r)) : vx_Met l yX6_checkNotRoot wsX6_checkNotRoot rxX6_checkNotRoot (va_Pc [.ref (q 0), .int x1] (xP G (CW G q C) sz)) (fun _ _ _ _ => False) (XCf G (CW G q) (va_A (CW G q C) sz) (r, C)) 1 6 (va_A (CW G q C) sz) := by
  refine vx_ofW (cc := cX6_checkNotRoot) (maxL := 2) (ret := none) (by decide) rfl ?_
  intro p e s m args below meth c s₁ B hml hex hv
  obtain ⟨rfl, ⟨hsz, hP, hK, hD0⟩, hE⟩ := hv
  have bx := bx_of B hml
  subst hsz
  have hD := hD0.self (sz := s.heap.size)
  generalize hAe : va_A (CW G q C) s.heap.size = A at hD hE ⊢
  have hA : ∀ q : Nat, s.heap.size ≤ q → A q := fun q h => by rw [← hAe]; exact Or.inr h
  have hS : va_S A s.heap s.heap [] := va_S.rf
  obtain ⟨hx, hb, hr, hts, hown, hml, hlocks⟩ := id bx
  have hl := lv_entry ([.ref (q 0), .int x1]) (n := 2) (Nat.le_of_ble_eq_true rfl)
  rw [lg_entry_eq]
  generalize (lg_sl ([.ref (q 0), .int x1]) ++ List.replicate (2 - (lg_sl ([.ref (q 0), .int x1])).length) Slot.unset).toArray = ls at hl ⊢
  have hl : lv_has ls 2 [(0, .ref (q 0)), (1, .int x1)] := hl
  show W p l e rxX6_checkNotRoot s m _ below meth c s.heap [] 0 0 (MQx G (CW G q) A s _ below (r, C)) (F0 m 0 ls [])
  unfold pX6_checkNotRoot at h
  refine lv_iload_n hx hb dX6_checkNotRoot_0 rfl (lv_at hl 1 rfl) ?_
  refine lv_if_ne (tgt := 15) hx hb dX6_checkNotRoot_1 (by decide) (fun c_1 => ?_) (fun c_1 => ?_)
  · have h := br_F h c_1
    cases h
  · have h := br_T h c_1
    exact x_throwSW (Wd := CW G q) (C := C) (k := 2) (cls := "java/lang/IllegalArgumentException") (text := "it is the root") hx hb hl0 hts hown hml hlocks hex hK hE hP hS hl (by decide +kernel) (w_mem hts 1 rfl) (w_mem hts 2 rfl) (List.mem_of_getElem? (i := 8) rfl) (fun w h => List.mem_cons_of_mem _ (List.mem_append_right _ h)) xB_52 xG_52_48 dX6_checkNotRoot_4 dX6_checkNotRoot_7 dX6_checkNotRoot_8 dX6_checkNotRoot_11 dX6_checkNotRoot_14 ⟨Nat.le_of_ble_eq_true rfl, Nat.le_of_ble_eq_true rfl, Nat.le_of_ble_eq_true rfl, Nat.le_of_ble_eq_true rfl⟩ ((congrArg (fun z => (z, C)) (xl_ h)).symm) rfl

def rmX6_checkDifferent : Room := { frames := 0, cells := 0, slots := 0, locals := 0 }

set_option maxHeartbeats 4000000 in
set_option maxRecDepth 100000 in
theorem kX6_checkDifferent (l : Launch) (G : GT) (q : Nat → Nat) (C : St) (x1 : Int32) (x2 : Int32) (r : Unit) (h : pX6_checkDifferent C x1 x2 = some (.inr r)) : Met l yX6_checkDifferent wsX6_checkDifferent rmX6_checkDifferent (va_Pc [.ref (q 0), .int x1, .int x2] (roP G (CW G q C))) (va_Sv (fun _ => True)) 0 0 (fun _ => False) := by
  refine Met.ofW (cc := cX6_checkDifferent) (maxL := 3) (ret := none) (by decide) rfl ?_
  intro p e s m args below meth c s₁ B hml hv
  obtain ⟨rfl, hP, hK⟩ := hv
  have bx := bx_of B hml
  obtain ⟨hx, hb, hr, hts, hown, hml, hlocks⟩ := id bx
  have hl := lv_entry ([.ref (q 0), .int x1, .int x2]) (n := 3) (Nat.le_of_ble_eq_true rfl)
  rw [lg_entry_eq]
  generalize (lg_sl ([.ref (q 0), .int x1, .int x2]) ++ List.replicate (3 - (lg_sl ([.ref (q 0), .int x1, .int x2])).length) Slot.unset).toArray = ls at hl ⊢
  have hl : lv_has ls 3 [(0, .ref (q 0)), (1, .int x1), (2, .int x2)] := hl
  show GoV p l e rmX6_checkDifferent s m _ below meth c r (F0 m 0 ls [])
  unfold pX6_checkDifferent at h
  refine lv_iload_n hx hb dX6_checkDifferent_0 rfl (lv_at hl 1 rfl) ?_
  refine lv_iload_n hx hb dX6_checkDifferent_1 rfl (lv_at hl 2 rfl) ?_
  refine lv_icmp_ne (tgt := 16) hx hb dX6_checkDifferent_2 (by decide) (fun c_2 => ?_) (fun c_2 => ?_)
  · have h := br_F h c_2
    exact GoV.end (out := ()) hx hb hr hlocks dX6_checkDifferent_16
  · have h := br_T h c_2
    cases h

def rxX6_checkDifferent : Room := { frames := 6, cells := 1, slots := 6, locals := 100 }

set_option maxHeartbeats 4000000 in
set_option maxRecDepth 100000 in
theorem xX6_checkDifferent (l : Launch) (hl0 : l.stackTraces = false) (G : GT) (q : Nat → Nat) (C : St) (sz : Nat) (x1 : Int32) (x2 : Int32) (r : Nat) (h : pX6_checkDifferent C x1 x2 = some (.inl r)) : vx_Met l yX6_checkDifferent wsX6_checkDifferent rxX6_checkDifferent (va_Pc [.ref (q 0), .int x1, .int x2] (xP G (CW G q C) sz)) (fun _ _ _ _ => False) (XCf G (CW G q) (va_A (CW G q C) sz) (r, C)) 1 6 (va_A (CW G q C) sz) := by
  refine vx_ofW (cc := cX6_checkDifferent) (maxL := 3) (ret := none) (by decide) rfl ?_
  intro p e s m args below meth c s₁ B hml hex hv
  obtain ⟨rfl, ⟨hsz, hP, hK, hD0⟩, hE⟩ := hv
  have bx := bx_of B hml
  subst hsz
  have hD := hD0.self (sz := s.heap.size)
  generalize hAe : va_A (CW G q C) s.heap.size = A at hD hE ⊢
  have hA : ∀ q : Nat, s.heap.size ≤ q → A q := fun q h => by rw [← hAe]; exact Or.inr h
  have hS : va_S A s.heap s.heap [] := va_S.rf
  obtain ⟨hx, hb, hr, hts, hown, hml, hlocks⟩ := id bx
  have hl := lv_entry ([.ref (q 0), .int x1, .int x2]) (n := 3) (Nat.le_of_ble_eq_true rfl)
  rw [lg_entry_eq]
  generalize (lg_sl ([.ref (q 0), .int x1, .int x2]) ++ List.replicate (3 - (lg_sl ([.ref (q 0), .int x1, .int x2])).length) Slot.unset).toArray = ls at hl ⊢
  have hl : lv_has ls 3 [(0, .ref (q 0)), (1, .int x1), (2, .int x2)] := hl
  show W p l e rxX6_checkDifferent s m _ below meth c s.heap [] 0 0 (MQx G (CW G q) A s _ below (r, C)) (F0 m 0 ls [])
  unfold pX6_checkDifferent at h
  refine lv_iload_n hx hb dX6_checkDifferent_0 rfl (lv_at hl 1 rfl) ?_
  refine lv_iload_n hx hb dX6_checkDifferent_1 rfl (lv_at hl 2 rfl) ?_
  refine lv_icmp_ne (tgt := 16) hx hb dX6_checkDifferent_2 (by decide) (fun c_2 => ?_) (fun c_2 => ?_)
  · have h := br_F h c_2
    cases h
  · have h := br_T h c_2
    exact x_throwSW (Wd := CW G q) (C := C) (k := 2) (cls := "java/lang/IllegalArgumentException") (text := "two features are the same") hx hb hl0 hts hown hml hlocks hex hK hE hP hS hl (by decide +kernel) (w_mem hts 1 rfl) (w_mem hts 2 rfl) (List.mem_of_getElem? (i := 9) rfl) (fun w h => List.mem_cons_of_mem _ (List.mem_append_right _ h)) xB_52 xG_52_48 dX6_checkDifferent_5 dX6_checkDifferent_8 dX6_checkDifferent_9 dX6_checkDifferent_12 dX6_checkDifferent_15 ⟨Nat.le_of_ble_eq_true rfl, Nat.le_of_ble_eq_true rfl, Nat.le_of_ble_eq_true rfl, Nat.le_of_ble_eq_true rfl⟩ ((congrArg (fun z => (z, C)) (xl_ h)).symm) rfl

def rmX6_checkDecidable : Room := { frames := 1, cells := 0, slots := 0, locals := 21 }

theorem in_wsX6_checkDecidable_X6 : ∀ w ∈ u_ws RX6 TX6 7, w ∈ wsX6_checkDecidable := by decide +kernel

set_option maxHeartbeats 4000000 in
set_option maxRecDepth 100000 in
theorem kX6_checkDecidable (l : Launch) (G : GT) (q : Nat → Nat) (C : St) (x1 : Int32) (r : Unit) (h : pX6_checkDecidable C x1 = some (.inr r)) : Met l yX6_checkDecidable wsX6_checkDecidable rmX6_checkDecidable (va_Pc [.ref (q 0), .int x1] (roP G (CW G q C))) (va_Sv (fun _ => True)) 0 0 (fun _ => False) := by
  refine Met.ofW (cc := cX6_checkDecidable) (maxL := 2) (ret := none) (by decide) rfl ?_
  intro p e s m args below meth c s₁ B hml hv
  obtain ⟨rfl, hP, hK⟩ := hv
  have bx := bx_of B hml
  obtain ⟨hx, hb, hr, hts, hown, hml, hlocks⟩ := id bx
  have hl := lv_entry ([.ref (q 0), .int x1]) (n := 2) (Nat.le_of_ble_eq_true rfl)
  rw [lg_entry_eq]
  generalize (lg_sl ([.ref (q 0), .int x1]) ++ List.replicate (2 - (lg_sl ([.ref (q 0), .int x1])).length) Slot.unset).toArray = ls at hl ⊢
  have hl : lv_has ls 2 [(0, .ref (q 0)), (1, .int x1)] := hl
  show GoV p l e rmX6_checkDecidable s m _ below meth c r (F0 m 0 ls [])
  unfold pX6_checkDecidable at h
  refine lv_aload_n hx hb dX6_checkDecidable_0 rfl (lv_at hl 0 rfl) ?_
  refine lv_iload_n hx hb dX6_checkDecidable_1 rfl (lv_at hl 1 rfl) ?_
  obtain ⟨r_1, hr_1, h⟩ := tb_N h
  refine ro_v (va_runV (As := [.int x1]) (rest := []) ⟨hx, hb, hml, hown, hts⟩ (kX6_checkFeature l G q C x1 r_1 hr_1) (cwV 1 hts gX6_checkDecidable_X6_checkFeature rfl rfl rfl (by decide +kernel) ⟨Nat.le_of_ble_eq_true rfl, Nat.le_of_ble_eq_true rfl⟩) (roV hP hK 5 0 rfl rfl) rfl rfl hl.1 rfl (lv_room (Nat.le_of_ble_eq_true rfl)) dX6_checkDecidable_2 ⟨Nat.zero_le _, Nat.zero_le _⟩) ?_
  refine lv_aload_n hx hb dX6_checkDecidable_5 rfl (lv_at hl 0 rfl) ?_
  refine lv_iload_n hx hb dX6_checkDecidable_6 rfl (lv_at hl 1 rfl) ?_
  obtain ⟨r_2, hr_2, h⟩ := tb_N h
  refine ro_v (va_runV (As := [.int x1]) (rest := []) ⟨hx, hb, hml, hown, hts⟩ (kX6_checkNotRoot l G q C x1 r_2 hr_2) (cwV 1 hts gX6_checkDecidable_X6_checkNotRoot rfl rfl rfl (by decide +kernel) ⟨Nat.le_of_ble_eq_true rfl, Nat.le_of_ble_eq_true rfl⟩) (roV hP hK 5 0 rfl rfl) rfl rfl hl.1 rfl (lv_room (Nat.le_of_ble_eq_true rfl)) dX6_checkDecidable_7 ⟨Nat.zero_le _, Nat.zero_le _⟩) ?_
  refine lv_aload_n hx hb dX6_checkDecidable_10 rfl (lv_at hl 0 rfl) ?_
  refine va_get (D := G.1) (ci := 5) (v := .int (C.1 0)) (C := RX6) (T := TX6) (N := 7) hx hb hts in_wsX6_checkDecidable_X6 hown hK.1 hP 0 rfl rfl 5 (by decide) (w_mem hts 3 rfl) (fun _ h9 => h9) rfl dX6_checkDecidable_11 ?_
  refine lv_aload_n hx hb dX6_checkDecidable_14 rfl (lv_at hl 0 rfl) ?_
  refine va_get (D := G.1) (ci := 5) (v := .int (C.1 1)) (C := RX6) (T := TX6) (N := 7) hx hb hts in_wsX6_checkDecidable_X6 hown hK.1 hP 0 rfl rfl 6 (by decide) (w_mem hts 4 rfl) (fun _ h9 => h9) rfl dX6_checkDecidable_15 ?_
  refine lv_ior hx hb dX6_checkDecidable_18 ?_
  refine lv_iload_n hx hb dX6_checkDecidable_19 rfl (lv_at hl 1 rfl) ?_
  obtain ⟨r_3, hr_3, h⟩ := bd_ex h
  refine ro_i (va_runS (As := [.int ((C.1 0) ||| (C.1 1)), .int x1]) (rest := []) ⟨hx, hb, hml, hown, hts⟩ (kX6_has l G q C ((C.1 0) ||| (C.1 1)) x1 r_3 hr_3) (va_cwS 2 hts gX6_checkDecidable_X6_has rfl rfl rfl (by decide +kernel) ⟨Nat.le_of_ble_eq_true rfl, Nat.le_of_ble_eq_true rfl⟩) (roS hP hK) rfl rfl hl.1 rfl (lv_room (Nat.le_of_ble_eq_true rfl)) dX6_checkDecidable_20 ⟨Nat.zero_le _, Nat.zero_le _⟩) ?_
  refine lv_if_eq (tgt := 37) hx hb dX6_checkDecidable_23 (by decide) (fun c_23 => ?_) (fun c_23 => ?_)
  · have h := br_T h c_23
    exact GoV.end (out := ()) hx hb hr hlocks dX6_checkDecidable_37
  · have h := br_F h c_23
    cases h

def rxX6_checkDecidable : Room := { frames := 7, cells := 1, slots := 6, locals := 121 }

set_option maxHeartbeats 4000000 in
set_option maxRecDepth 100000 in
theorem xX6_checkDecidable (l : Launch) (hl0 : l.stackTraces = false) (G : GT) (q : Nat → Nat) (C : St) (sz : Nat) (x1 : Int32) (r : Nat) (h : pX6_checkDecidable C x1 = some (.inl r)) : vx_Met l yX6_checkDecidable wsX6_checkDecidable rxX6_checkDecidable (va_Pc [.ref (q 0), .int x1] (xP G (CW G q C) sz)) (fun _ _ _ _ => False) (XCf G (CW G q) (va_A (CW G q C) sz) (r, C)) 1 6 (va_A (CW G q C) sz) := by
  refine vx_ofW (cc := cX6_checkDecidable) (maxL := 2) (ret := none) (by decide) rfl ?_
  intro p e s m args below meth c s₁ B hml hex hv
  obtain ⟨rfl, ⟨hsz, hP, hK, hD0⟩, hE⟩ := hv
  have bx := bx_of B hml
  subst hsz
  have hD := hD0.self (sz := s.heap.size)
  generalize hAe : va_A (CW G q C) s.heap.size = A at hD hE ⊢
  have hA : ∀ q : Nat, s.heap.size ≤ q → A q := fun q h => by rw [← hAe]; exact Or.inr h
  have hS : va_S A s.heap s.heap [] := va_S.rf
  obtain ⟨hx, hb, hr, hts, hown, hml, hlocks⟩ := id bx
  have hl := lv_entry ([.ref (q 0), .int x1]) (n := 2) (Nat.le_of_ble_eq_true rfl)
  rw [lg_entry_eq]
  generalize (lg_sl ([.ref (q 0), .int x1]) ++ List.replicate (2 - (lg_sl ([.ref (q 0), .int x1])).length) Slot.unset).toArray = ls at hl ⊢
  have hl : lv_has ls 2 [(0, .ref (q 0)), (1, .int x1)] := hl
  show W p l e rxX6_checkDecidable s m _ below meth c s.heap [] 0 0 (MQx G (CW G q) A s _ below (r, C)) (F0 m 0 ls [])
  unfold pX6_checkDecidable at h
  refine lv_aload_n hx hb dX6_checkDecidable_0 rfl (lv_at hl 0 rfl) ?_
  refine lv_iload_n hx hb dX6_checkDecidable_1 rfl (lv_at hl 1 rfl) ?_
  rcases tb_X h with ⟨er_1, hr_1, h⟩ | ⟨r_1, hr_1, h⟩
  · exact x_prop (Wd := CW G q) (vx_runV (As := [.int x1]) (rest := []) ⟨hx, hb, hml, hown, hts⟩ (xX6_checkFeature l hl0 G q C _ x1 er_1 hr_1) (cwV 1 hts gX6_checkDecidable_X6_checkFeature rfl rfl rfl (by decide +kernel) ⟨Nat.le_of_ble_eq_true rfl, Nat.le_of_ble_eq_true rfl⟩) (xV hP hD hS hK hA hE 5 0 rfl rfl) rfl rfl hl.1 rfl (lv_room (Nat.le_of_ble_eq_true rfl)) dX6_checkDecidable_2 ⟨Nat.le_of_ble_eq_true rfl, Nat.le_of_ble_eq_true rfl⟩) hD hS hA (fun _ => rfl) hex hlocks (congrArg (fun z => (z, C)) h)
  refine ro_v (va_runV (As := [.int x1]) (rest := []) ⟨hx, hb, hml, hown, hts⟩ (kX6_checkFeature l G q C x1 r_1 hr_1) (cwV 1 hts gX6_checkDecidable_X6_checkFeature rfl rfl rfl (by decide +kernel) ⟨Nat.le_of_ble_eq_true rfl, Nat.le_of_ble_eq_true rfl⟩) (roV hP hK 5 0 rfl rfl) rfl rfl hl.1 rfl (lv_room (Nat.le_of_ble_eq_true rfl)) dX6_checkDecidable_2 ⟨Nat.zero_le _, Nat.zero_le _⟩) ?_
  refine lv_aload_n hx hb dX6_checkDecidable_5 rfl (lv_at hl 0 rfl) ?_
  refine lv_iload_n hx hb dX6_checkDecidable_6 rfl (lv_at hl 1 rfl) ?_
  rcases tb_X h with ⟨er_2, hr_2, h⟩ | ⟨r_2, hr_2, h⟩
  · exact x_prop (Wd := CW G q) (vx_runV (As := [.int x1]) (rest := []) ⟨hx, hb, hml, hown, hts⟩ (xX6_checkNotRoot l hl0 G q C _ x1 er_2 hr_2) (cwV 1 hts gX6_checkDecidable_X6_checkNotRoot rfl rfl rfl (by decide +kernel) ⟨Nat.le_of_ble_eq_true rfl, Nat.le_of_ble_eq_true rfl⟩) (xV hP hD hS hK hA hE 5 0 rfl rfl) rfl rfl hl.1 rfl (lv_room (Nat.le_of_ble_eq_true rfl)) dX6_checkDecidable_7 ⟨Nat.le_of_ble_eq_true rfl, Nat.le_of_ble_eq_true rfl⟩) hD hS hA (fun _ => rfl) hex hlocks (congrArg (fun z => (z, C)) h)
  refine ro_v (va_runV (As := [.int x1]) (rest := []) ⟨hx, hb, hml, hown, hts⟩ (kX6_checkNotRoot l G q C x1 r_2 hr_2) (cwV 1 hts gX6_checkDecidable_X6_checkNotRoot rfl rfl rfl (by decide +kernel) ⟨Nat.le_of_ble_eq_true rfl, Nat.le_of_ble_eq_true rfl⟩) (roV hP hK 5 0 rfl rfl) rfl rfl hl.1 rfl (lv_room (Nat.le_of_ble_eq_true rfl)) dX6_checkDecidable_7 ⟨Nat.zero_le _, Nat.zero_le _⟩) ?_
  refine lv_aload_n hx hb dX6_checkDecidable_10 rfl (lv_at hl 0 rfl) ?_
  refine va_get (D := G.1) (ci := 5) (v := .int (C.1 0)) (C := RX6) (T := TX6) (N := 7) hx hb hts in_wsX6_checkDecidable_X6 hown hK.1 hP 0 rfl rfl 5 (by decide) (w_mem hts 3 rfl) (fun _ h9 => h9) rfl dX6_checkDecidable_11 ?_
  refine lv_aload_n hx hb dX6_checkDecidable_14 rfl (lv_at hl 0 rfl) ?_
  refine va_get (D := G.1) (ci := 5) (v := .int (C.1 1)) (C := RX6) (T := TX6) (N := 7) hx hb hts in_wsX6_checkDecidable_X6 hown hK.1 hP 0 rfl rfl 6 (by decide) (w_mem hts 4 rfl) (fun _ h9 => h9) rfl dX6_checkDecidable_15 ?_
  refine lv_ior hx hb dX6_checkDecidable_18 ?_
  refine lv_iload_n hx hb dX6_checkDecidable_19 rfl (lv_at hl 1 rfl) ?_
  obtain ⟨r_3, hr_3, h⟩ := bd_ex h
  refine ro_i (va_runS (As := [.int ((C.1 0) ||| (C.1 1)), .int x1]) (rest := []) ⟨hx, hb, hml, hown, hts⟩ (kX6_has l G q C ((C.1 0) ||| (C.1 1)) x1 r_3 hr_3) (va_cwS 2 hts gX6_checkDecidable_X6_has rfl rfl rfl (by decide +kernel) ⟨Nat.le_of_ble_eq_true rfl, Nat.le_of_ble_eq_true rfl⟩) (roS hP hK) rfl rfl hl.1 rfl (lv_room (Nat.le_of_ble_eq_true rfl)) dX6_checkDecidable_20 ⟨Nat.zero_le _, Nat.zero_le _⟩) ?_
  refine lv_if_eq (tgt := 37) hx hb dX6_checkDecidable_23 (by decide) (fun c_23 => ?_) (fun c_23 => ?_)
  · have h := br_T h c_23
    cases h
  · have h := br_F h c_23
    exact x_throwSW (Wd := CW G q) (C := C) (k := 3) (cls := "java/lang/IllegalStateException") (text := "the feature is decided") hx hb hl0 hts hown hml hlocks hex hK hE hP hS hl (by decide +kernel) (w_mem hts 1 rfl) (w_mem hts 2 rfl) (List.mem_of_getElem? (i := 10) rfl) (fun w h => List.mem_cons_of_mem _ (List.mem_append_left _ (List.mem_append_left _ (List.mem_append_right _ h)))) xB_63 xG_63_59 dX6_checkDecidable_26 dX6_checkDecidable_29 dX6_checkDecidable_30 dX6_checkDecidable_33 dX6_checkDecidable_36 ⟨Nat.le_of_ble_eq_true rfl, Nat.le_of_ble_eq_true rfl, Nat.le_of_ble_eq_true rfl, Nat.le_of_ble_eq_true rfl⟩ ((congrArg (fun z => (z, C)) (xl_ h)).symm) rfl

def rmX6_checkSet : Room := { frames := 1, cells := 0, slots := 0, locals := 20 }

theorem in_wsX6_checkSet_X6 : ∀ w ∈ u_ws RX6 TX6 7, w ∈ wsX6_checkSet := by decide +kernel

set_option maxHeartbeats 4000000 in
set_option maxRecDepth 100000 in
theorem wX6_checkSet_15 {p : Program} {l : Launch} {e : Env} {s : State} {m : MethodId} {args : Array Value} {below : List Frame} {meth : Method} {c : Code} {G : GT} {q : Nat → Nat} {C : St} {out : Unit} (bx : BX p RX6 wsX6_checkSet cX6_checkSet 2 none s m args meth c) (hP : va_P G.1 vwCl (CW G q C) s.heap) (hK : CK G s) (h : pX6_checkSet_15 C = some (.inr out)) (ls : Array Slot) (hl : lv_has ls 2 []) : GoV p l e rmX6_checkSet s m args below meth c out (F0 m 15 ls []) := by
  obtain ⟨hx, hb, hr, hts, hown, hml, hlocks⟩ := id bx
  unfold pX6_checkSet_15 at h
  cases h

set_option maxHeartbeats 4000000 in
set_option maxRecDepth 100000 in
theorem kX6_checkSet (l : Launch) (G : GT) (q : Nat → Nat) (C : St) (x1 : Int32) (r : Unit) (h : pX6_checkSet C x1 = some (.inr r)) : Met l yX6_checkSet wsX6_checkSet rmX6_checkSet (va_Pc [.ref (q 0), .int x1] (roP G (CW G q C))) (va_Sv (fun _ => True)) 0 0 (fun _ => False) := by
  refine Met.ofW (cc := cX6_checkSet) (maxL := 2) (ret := none) (by decide) rfl ?_
  intro p e s m args below meth c s₁ B hml hv
  obtain ⟨rfl, hP, hK⟩ := hv
  have bx := bx_of B hml
  obtain ⟨hx, hb, hr, hts, hown, hml, hlocks⟩ := id bx
  have hl := lv_entry ([.ref (q 0), .int x1]) (n := 2) (Nat.le_of_ble_eq_true rfl)
  rw [lg_entry_eq]
  generalize (lg_sl ([.ref (q 0), .int x1]) ++ List.replicate (2 - (lg_sl ([.ref (q 0), .int x1])).length) Slot.unset).toArray = ls at hl ⊢
  have hl : lv_has ls 2 [(0, .ref (q 0)), (1, .int x1)] := hl
  show GoV p l e rmX6_checkSet s m _ below meth c r (F0 m 0 ls [])
  unfold pX6_checkSet at h
  refine lv_iload_n hx hb dX6_checkSet_0 rfl (lv_at hl 1 rfl) ?_
  refine lv_if_lt (tgt := 15) hx hb dX6_checkSet_1 (by decide) (fun c_1 => ?_) (fun c_1 => ?_)
  · have h := br_T h c_1
    exact wX6_checkSet_15 bx hP hK  h _ (lv_sub hl [] rfl)
  · have h := br_F h c_1
    refine lv_iload_n hx hb dX6_checkSet_4 rfl (lv_at hl 1 rfl) ?_
    refine lv_aload_n hx hb dX6_checkSet_5 rfl (lv_at hl 0 rfl) ?_
    refine va_get (D := G.1) (ci := 5) (v := .ref (q 1)) (C := RX6) (T := TX6) (N := 7) hx hb hts in_wsX6_checkSet_X6 hown hK.1 hP 0 rfl rfl 0 (by decide) (w_mem hts 3 rfl) (fun _ h9 => h9) rfl dX6_checkSet_6 ?_
    obtain ⟨r_1, hr_1, h⟩ := bd_ex h
    refine ro_i (va_runVN (As := []) (rest := [.int x1]) ⟨hx, hb, hml, hown, hts⟩ (kX5_allFeatures l G q C r_1 hr_1) ⟨va_cnB 0 hts gX6_checkSet_X5_allFeatures_n200 rfl rfl rfl (hK.2.nw 9 rfl) (w_mem hts 5 rfl) (by decide +kernel) ⟨Nat.le_of_ble_eq_true rfl, Nat.le_of_ble_eq_true rfl⟩, (w_mem hts 4 rfl), (w_mem hts 6 rfl)⟩ (roV hP hK 4 1 rfl rfl) rfl rfl hl.1 rfl (lv_room (Nat.le_of_ble_eq_true rfl)) dX6_checkSet_9 ⟨Nat.zero_le _, Nat.zero_le _⟩) ?_
    refine lv_icmp_le (tgt := 26) hx hb dX6_checkSet_12 (by decide) (fun c_12 => ?_) (fun c_12 => ?_)
    · have h := br_T h c_12
      exact GoV.end (out := ()) hx hb hr hlocks dX6_checkSet_26
    · have h := br_F h c_12
      exact wX6_checkSet_15 bx hP hK  h _ (lv_sub hl [] rfl)

def rxX6_checkSet : Room := { frames := 6, cells := 1, slots := 6, locals := 100 }

set_option maxHeartbeats 4000000 in
set_option maxRecDepth 100000 in
theorem xX6_checkSet_15 {p : Program} {l : Launch} {e : Env} {s : State} {m : MethodId} {args : Array Value} {below : List Frame} {meth : Method} {c : Code} {G : GT} {q : Nat → Nat} {A : Nat → Prop} {out : Nat} (bx : BX p RX6 wsX6_checkSet cX6_checkSet 2 none s m args meth c) (hA : ∀ q : Nat, s.heap.size ≤ q → A q) (hK : CK G s) (hl0 : l.stackTraces = false) (hE : XE A s) (hex : ∀ x ∈ c.exceptionTable.toList, False) (C : St) (h : pX6_checkSet_15 C = some (.inl out)) {H : Heap} {locs : List Loc} (hP : va_P G.1 vwCl (CW G q C) H) (hD : va_D A (CW G q C)) (hS : va_S A s.heap H locs) (ls : Array Slot) (hl : lv_has ls 2 []) : W p l e rxX6_checkSet s m args below meth c H locs 0 0 (MQx G (CW G q) A s args below (out, C)) (F0 m 15 ls []) := by
  obtain ⟨hx, hb, hr, hts, hown, hml, hlocks⟩ := id bx
  unfold pX6_checkSet_15 at h
  exact x_throwSW (Wd := CW G q) (C := C) (k := 2) (cls := "java/lang/IllegalArgumentException") (text := "there is no such set of features") hx hb hl0 hts hown hml hlocks hex hK hE hP hS hl (by decide +kernel) (w_mem hts 1 rfl) (w_mem hts 2 rfl) (List.mem_of_getElem? (i := 11) rfl) (fun w h => List.mem_cons_of_mem _ (List.mem_append_right _ h)) xB_52 xG_52_48 dX6_checkSet_15 dX6_checkSet_18 dX6_checkSet_19 dX6_checkSet_22 dX6_checkSet_25 ⟨Nat.le_of_ble_eq_true rfl, Nat.le_of_ble_eq_true rfl, Nat.le_of_ble_eq_true rfl, Nat.le_of_ble_eq_true rfl⟩ ((congrArg (fun z => (z, C)) (xl_ h)).symm) rfl

set_option maxHeartbeats 4000000 in
set_option maxRecDepth 100000 in
theorem xX6_checkSet (l : Launch) (hl0 : l.stackTraces = false) (G : GT) (q : Nat → Nat) (C : St) (sz : Nat) (x1 : Int32) (r : Nat) (h : pX6_checkSet C x1 = some (.inl r)) : vx_Met l yX6_checkSet wsX6_checkSet rxX6_checkSet (va_Pc [.ref (q 0), .int x1] (xP G (CW G q C) sz)) (fun _ _ _ _ => False) (XCf G (CW G q) (va_A (CW G q C) sz) (r, C)) 1 6 (va_A (CW G q C) sz) := by
  refine vx_ofW (cc := cX6_checkSet) (maxL := 2) (ret := none) (by decide) rfl ?_
  intro p e s m args below meth c s₁ B hml hex hv
  obtain ⟨rfl, ⟨hsz, hP, hK, hD0⟩, hE⟩ := hv
  have bx := bx_of B hml
  subst hsz
  have hD := hD0.self (sz := s.heap.size)
  generalize hAe : va_A (CW G q C) s.heap.size = A at hD hE ⊢
  have hA : ∀ q : Nat, s.heap.size ≤ q → A q := fun q h => by rw [← hAe]; exact Or.inr h
  have hS : va_S A s.heap s.heap [] := va_S.rf
  obtain ⟨hx, hb, hr, hts, hown, hml, hlocks⟩ := id bx
  have hl := lv_entry ([.ref (q 0), .int x1]) (n := 2) (Nat.le_of_ble_eq_true rfl)
  rw [lg_entry_eq]
  generalize (lg_sl ([.ref (q 0), .int x1]) ++ List.replicate (2 - (lg_sl ([.ref (q 0), .int x1])).length) Slot.unset).toArray = ls at hl ⊢
  have hl : lv_has ls 2 [(0, .ref (q 0)), (1, .int x1)] := hl
  show W p l e rxX6_checkSet s m _ below meth c s.heap [] 0 0 (MQx G (CW G q) A s _ below (r, C)) (F0 m 0 ls [])
  unfold pX6_checkSet at h
  refine lv_iload_n hx hb dX6_checkSet_0 rfl (lv_at hl 1 rfl) ?_
  refine lv_if_lt (tgt := 15) hx hb dX6_checkSet_1 (by decide) (fun c_1 => ?_) (fun c_1 => ?_)
  · have h := br_T h c_1
    exact xX6_checkSet_15 bx hA hK hl0 hE hex C h hP hD hS _ (lv_sub hl [] rfl)
  · have h := br_F h c_1
    refine lv_iload_n hx hb dX6_checkSet_4 rfl (lv_at hl 1 rfl) ?_
    refine lv_aload_n hx hb dX6_checkSet_5 rfl (lv_at hl 0 rfl) ?_
    refine va_get (D := G.1) (ci := 5) (v := .ref (q 1)) (C := RX6) (T := TX6) (N := 7) hx hb hts in_wsX6_checkSet_X6 hown hK.1 hP 0 rfl rfl 0 (by decide) (w_mem hts 3 rfl) (fun _ h9 => h9) rfl dX6_checkSet_6 ?_
    obtain ⟨r_1, hr_1, h⟩ := bd_ex h
    refine ro_i (va_runVN (As := []) (rest := [.int x1]) ⟨hx, hb, hml, hown, hts⟩ (kX5_allFeatures l G q C r_1 hr_1) ⟨va_cnB 0 hts gX6_checkSet_X5_allFeatures_n200 rfl rfl rfl (hK.2.nw 9 rfl) (w_mem hts 5 rfl) (by decide +kernel) ⟨Nat.le_of_ble_eq_true rfl, Nat.le_of_ble_eq_true rfl⟩, (w_mem hts 4 rfl), (w_mem hts 6 rfl)⟩ (roV hP hK 4 1 rfl rfl) rfl rfl hl.1 rfl (lv_room (Nat.le_of_ble_eq_true rfl)) dX6_checkSet_9 ⟨Nat.zero_le _, Nat.zero_le _⟩) ?_
    refine lv_icmp_le (tgt := 26) hx hb dX6_checkSet_12 (by decide) (fun c_12 => ?_) (fun c_12 => ?_)
    · have h := br_T h c_12
      cases h
    · have h := br_F h c_12
      exact xX6_checkSet_15 bx hA hK hl0 hE hex C h hP hD hS _ (lv_sub hl [] rfl)

def rmX6_stateOf : Room := { frames := 17, cells := 0, slots := 0, locals := 434 }

theorem in_wsX6_stateOf_X6 : ∀ w ∈ u_ws RX6 TX6 7, w ∈ wsX6_stateOf := by decide +kernel

set_option maxHeartbeats 4000000 in
set_option maxRecDepth 100000 in
theorem kX6_stateOf (l : Launch) (G : GT) (q : Nat → Nat) (C : St) (x1 : Int32) (r : Int32) (h : pX6_stateOf C x1 = some (.inr r)) : Met l yX6_stateOf wsX6_stateOf rmX6_stateOf (va_Pc [.ref (q 0), .int x1] (roP G (CW G q C))) (vp_Si (fun v => v = r)) 0 0 (fun _ => False) := by
  refine Met.ofW (cc := cX6_stateOf) (maxL := 5) (ret := (some .char)) (by decide) rfl ?_
  intro p e s m args below meth c s₁ B hml hv
  obtain ⟨rfl, hP, hK⟩ := hv
  have bx := bx_of B hml
  obtain ⟨hx, hb, hr, hts, hown, hml, hlocks⟩ := id bx
  have hl := lv_entry ([.ref (q 0), .int x1]) (n := 5) (Nat.le_of_ble_eq_true rfl)
  rw [lg_entry_eq]
  generalize (lg_sl ([.ref (q 0), .int x1]) ++ List.replicate (5 - (lg_sl ([.ref (q 0), .int x1])).length) Slot.unset).toArray = ls at hl ⊢
  have hl : lv_has ls 5 [(0, .ref (q 0)), (1, .int x1)] := hl
  show GoI p l e rmX6_stateOf s m _ below meth c r (F0 m 0 ls [])
  unfold pX6_stateOf at h
  refine lv_aload_n hx hb dX6_stateOf_0 rfl (lv_at hl 0 rfl) ?_
  refine lv_iload_n hx hb dX6_stateOf_1 rfl (lv_at hl 1 rfl) ?_
  obtain ⟨r_1, hr_1, h⟩ := tb_N h
  refine ro_v (va_runV (As := [.int x1]) (rest := []) ⟨hx, hb, hml, hown, hts⟩ (kX6_checkFeature l G q C x1 r_1 hr_1) (cwV 1 hts gX6_stateOf_X6_checkFeature rfl rfl rfl (by decide +kernel) ⟨Nat.le_of_ble_eq_true rfl, Nat.le_of_ble_eq_true rfl⟩) (roV hP hK 5 0 rfl rfl) rfl rfl hl.1 rfl (lv_room (Nat.le_of_ble_eq_true rfl)) dX6_stateOf_2 ⟨Nat.zero_le _, Nat.zero_le _⟩) ?_
  refine lv_iconst (v := 1) hx hb dX6_stateOf_5 (by decide) ?_
  refine lv_iload_n hx hb dX6_stateOf_6 rfl (lv_at hl 1 rfl) ?_
  refine lv_ishl hx hb dX6_stateOf_7 ?_
  refine lv_topi (fun v_2 ev_2 => ?_)
  have h := ltv_at h v_2 ev_2
  refine lv_istore_n (lv' := [(2, .int v_2), (0, .ref (q 0)), (1, .int x1)]) hx hb dX6_stateOf_8 rfl hl (by decide) rfl (fun ls hl => ?_)
  refine lv_aload_n hx hb dX6_stateOf_9 rfl (lv_at hl 1 rfl) ?_
  refine va_get (D := G.1) (ci := 5) (v := .ref (q 1)) (C := RX6) (T := TX6) (N := 7) hx hb hts in_wsX6_stateOf_X6 hown hK.1 hP 0 rfl rfl 0 (by decide) (w_mem hts 1 rfl) (fun _ h9 => h9) rfl dX6_stateOf_10 ?_
  refine lv_aload_n hx hb dX6_stateOf_13 rfl (lv_at hl 1 rfl) ?_
  refine va_get (D := G.1) (ci := 5) (v := .ref (q 2)) (C := RX6) (T := TX6) (N := 7) hx hb hts in_wsX6_stateOf_X6 hown hK.1 hP 0 rfl rfl 1 (by decide) (w_mem hts 2 rfl) (fun _ h9 => h9) rfl dX6_stateOf_14 ?_
  refine lv_iconst (v := 0) hx hb dX6_stateOf_17 (by decide) ?_
  refine lv_iconst (v := 0) hx hb dX6_stateOf_18 (by decide) ?_
  refine lv_aload_n hx hb dX6_stateOf_19 rfl (lv_at hl 1 rfl) ?_
  refine va_get (D := G.1) (ci := 5) (v := .int (C.1 0)) (C := RX6) (T := TX6) (N := 7) hx hb hts in_wsX6_stateOf_X6 hown hK.1 hP 0 rfl rfl 5 (by decide) (w_mem hts 3 rfl) (fun _ h9 => h9) rfl dX6_stateOf_20 ?_
  refine lv_iload_n hx hb dX6_stateOf_23 rfl (lv_at hl 0 rfl) ?_
  refine lv_ior hx hb dX6_stateOf_24 ?_
  refine lv_aload_n hx hb dX6_stateOf_25 rfl (lv_at hl 1 rfl) ?_
  refine va_get (D := G.1) (ci := 5) (v := .int (C.1 1)) (C := RX6) (T := TX6) (N := 7) hx hb hts in_wsX6_stateOf_X6 hown hK.1 hP 0 rfl rfl 6 (by decide) (w_mem hts 4 rfl) (fun _ h9 => h9) rfl dX6_stateOf_26 ?_
  obtain ⟨r_3, hr_3, h⟩ := bd_ex h
  refine ro_i (va_runSN (As := [.ref (q 1), .ref (q 2), .int 0, .int 0, .int ((C.1 0) ||| v_2), .int (C.1 1)]) (rest := []) ⟨hx, hb, hml, hown, hts⟩ (kX4_reaches l RU G q C 0 0 ((C.1 0) ||| v_2) (C.1 1) r_3 hr_3) ⟨va_cnB 6 hts gX6_stateOf_X4_reaches_n141 rfl rfl rfl (hK.2.nw 7 rfl) (w_mem hts 13 rfl) (by decide +kernel) ⟨Nat.le_of_ble_eq_true rfl, Nat.le_of_ble_eq_true rfl⟩, (w_mem hts 12 rfl), trivial⟩ (roS hP hK) rfl rfl hl.1 rfl (lv_room (Nat.le_of_ble_eq_true rfl)) dX6_stateOf_29 ⟨Nat.zero_le _, Nat.zero_le _⟩) ?_
  refine lv_istore_n (lv' := [(3, .int r_3), (2, .int v_2), (0, .ref (q 0)), (1, .int x1)]) hx hb dX6_stateOf_32 rfl hl (by decide) rfl (fun ls hl => ?_)
  refine lv_aload_n hx hb dX6_stateOf_33 rfl (lv_at hl 2 rfl) ?_
  refine va_get (D := G.1) (ci := 5) (v := .ref (q 1)) (C := RX6) (T := TX6) (N := 7) hx hb hts in_wsX6_stateOf_X6 hown hK.1 hP 0 rfl rfl 0 (by decide) (w_mem hts 1 rfl) (fun _ h9 => h9) rfl dX6_stateOf_34 ?_
  refine lv_aload_n hx hb dX6_stateOf_37 rfl (lv_at hl 2 rfl) ?_
  refine va_get (D := G.1) (ci := 5) (v := .ref (q 2)) (C := RX6) (T := TX6) (N := 7) hx hb hts in_wsX6_stateOf_X6 hown hK.1 hP 0 rfl rfl 1 (by decide) (w_mem hts 2 rfl) (fun _ h9 => h9) rfl dX6_stateOf_38 ?_
  refine lv_iconst (v := 0) hx hb dX6_stateOf_41 (by decide) ?_
  refine lv_iconst (v := 0) hx hb dX6_stateOf_42 (by decide) ?_
  refine lv_aload_n hx hb dX6_stateOf_43 rfl (lv_at hl 2 rfl) ?_
  refine va_get (D := G.1) (ci := 5) (v := .int (C.1 0)) (C := RX6) (T := TX6) (N := 7) hx hb hts in_wsX6_stateOf_X6 hown hK.1 hP 0 rfl rfl 5 (by decide) (w_mem hts 3 rfl) (fun _ h9 => h9) rfl dX6_stateOf_44 ?_
  refine lv_aload_n hx hb dX6_stateOf_47 rfl (lv_at hl 2 rfl) ?_
  refine va_get (D := G.1) (ci := 5) (v := .int (C.1 1)) (C := RX6) (T := TX6) (N := 7) hx hb hts in_wsX6_stateOf_X6 hown hK.1 hP 0 rfl rfl 6 (by decide) (w_mem hts 4 rfl) (fun _ h9 => h9) rfl dX6_stateOf_48 ?_
  refine lv_iload_n hx hb dX6_stateOf_51 rfl (lv_at hl 1 rfl) ?_
  refine lv_ior hx hb dX6_stateOf_52 ?_
  obtain ⟨r_4, hr_4, h⟩ := bd_ex h
  refine ro_i (va_runSN (As := [.ref (q 1), .ref (q 2), .int 0, .int 0, .int (C.1 0), .int ((C.1 1) ||| v_2)]) (rest := []) ⟨hx, hb, hml, hown, hts⟩ (kX4_reaches l RU G q C 0 0 (C.1 0) ((C.1 1) ||| v_2) r_4 hr_4) ⟨va_cnB 6 hts gX6_stateOf_X4_reaches_n141 rfl rfl rfl (hK.2.nw 7 rfl) (w_mem hts 13 rfl) (by decide +kernel) ⟨Nat.le_of_ble_eq_true rfl, Nat.le_of_ble_eq_true rfl⟩, (w_mem hts 12 rfl), trivial⟩ (roS hP hK) rfl rfl hl.1 rfl (lv_room (Nat.le_of_ble_eq_true rfl)) dX6_stateOf_53 ⟨Nat.zero_le _, Nat.zero_le _⟩) ?_
  refine lv_istore (lv' := [(4, .int r_4), (3, .int r_3), (2, .int v_2), (0, .ref (q 0)), (1, .int x1)]) hx hb dX6_stateOf_56 hl (by decide) rfl (fun ls hl => ?_)
  refine lv_aload_n hx hb dX6_stateOf_58 rfl (lv_at hl 3 rfl) ?_
  refine lv_iload_n hx hb dX6_stateOf_59 rfl (lv_at hl 4 rfl) ?_
  refine lv_iload_n hx hb dX6_stateOf_60 rfl (lv_at hl 1 rfl) ?_
  refine lv_iload hx hb dX6_stateOf_61 (lv_at hl 0 rfl) ?_
  obtain ⟨r_5, hr_5, h⟩ := bd_ex h
  refine ro_i (va_runV (As := [.int x1, .int r_3, .int r_4]) (rest := []) ⟨hx, hb, hml, hown, hts⟩ (kX6_stateLetter l G q C x1 r_3 r_4 r_5 hr_5) (cwV 3 hts gX6_stateOf_X6_stateLetter rfl rfl rfl (by decide +kernel) ⟨Nat.le_of_ble_eq_true rfl, Nat.le_of_ble_eq_true rfl⟩) (roV hP hK 5 0 rfl rfl) rfl rfl hl.1 rfl (lv_room (Nat.le_of_ble_eq_true rfl)) dX6_stateOf_63 ⟨Nat.zero_le _, Nat.zero_le _⟩) ?_
  obtain ⟨g66, h⟩ := gd_ex h
  exact GoI.end hx hb hr hlocks dX6_stateOf_66 (okC_n g66) (nn_ h)

def rxX6_stateOf : Room := { frames := 17, cells := 1, slots := 6, locals := 434 }

set_option maxHeartbeats 4000000 in
set_option maxRecDepth 100000 in
theorem xX6_stateOf (l : Launch) (hl0 : l.stackTraces = false) (G : GT) (q : Nat → Nat) (C : St) (sz : Nat) (x1 : Int32) (r : Nat) (h : pX6_stateOf C x1 = some (.inl r)) : vx_Met l yX6_stateOf wsX6_stateOf rxX6_stateOf (va_Pc [.ref (q 0), .int x1] (xP G (CW G q C) sz)) (fun _ _ _ _ => False) (XCf G (CW G q) (va_A (CW G q C) sz) (r, C)) 1 6 (va_A (CW G q C) sz) := by
  refine vx_ofW (cc := cX6_stateOf) (maxL := 5) (ret := (some .char)) (by decide) rfl ?_
  intro p e s m args below meth c s₁ B hml hex hv
  obtain ⟨rfl, ⟨hsz, hP, hK, hD0⟩, hE⟩ := hv
  have bx := bx_of B hml
  subst hsz
  have hD := hD0.self (sz := s.heap.size)
  generalize hAe : va_A (CW G q C) s.heap.size = A at hD hE ⊢
  have hA : ∀ q : Nat, s.heap.size ≤ q → A q := fun q h => by rw [← hAe]; exact Or.inr h
  have hS : va_S A s.heap s.heap [] := va_S.rf
  obtain ⟨hx, hb, hr, hts, hown, hml, hlocks⟩ := id bx
  have hl := lv_entry ([.ref (q 0), .int x1]) (n := 5) (Nat.le_of_ble_eq_true rfl)
  rw [lg_entry_eq]
  generalize (lg_sl ([.ref (q 0), .int x1]) ++ List.replicate (5 - (lg_sl ([.ref (q 0), .int x1])).length) Slot.unset).toArray = ls at hl ⊢
  have hl : lv_has ls 5 [(0, .ref (q 0)), (1, .int x1)] := hl
  show W p l e rxX6_stateOf s m _ below meth c s.heap [] 0 0 (MQx G (CW G q) A s _ below (r, C)) (F0 m 0 ls [])
  unfold pX6_stateOf at h
  refine lv_aload_n hx hb dX6_stateOf_0 rfl (lv_at hl 0 rfl) ?_
  refine lv_iload_n hx hb dX6_stateOf_1 rfl (lv_at hl 1 rfl) ?_
  rcases tb_X h with ⟨er_1, hr_1, h⟩ | ⟨r_1, hr_1, h⟩
  · exact x_prop (Wd := CW G q) (vx_runV (As := [.int x1]) (rest := []) ⟨hx, hb, hml, hown, hts⟩ (xX6_checkFeature l hl0 G q C _ x1 er_1 hr_1) (cwV 1 hts gX6_stateOf_X6_checkFeature rfl rfl rfl (by decide +kernel) ⟨Nat.le_of_ble_eq_true rfl, Nat.le_of_ble_eq_true rfl⟩) (xV hP hD hS hK hA hE 5 0 rfl rfl) rfl rfl hl.1 rfl (lv_room (Nat.le_of_ble_eq_true rfl)) dX6_stateOf_2 ⟨Nat.le_of_ble_eq_true rfl, Nat.le_of_ble_eq_true rfl⟩) hD hS hA (fun _ => rfl) hex hlocks (congrArg (fun z => (z, C)) h)
  refine ro_v (va_runV (As := [.int x1]) (rest := []) ⟨hx, hb, hml, hown, hts⟩ (kX6_checkFeature l G q C x1 r_1 hr_1) (cwV 1 hts gX6_stateOf_X6_checkFeature rfl rfl rfl (by decide +kernel) ⟨Nat.le_of_ble_eq_true rfl, Nat.le_of_ble_eq_true rfl⟩) (roV hP hK 5 0 rfl rfl) rfl rfl hl.1 rfl (lv_room (Nat.le_of_ble_eq_true rfl)) dX6_stateOf_2 ⟨Nat.zero_le _, Nat.zero_le _⟩) ?_
  refine lv_iconst (v := 1) hx hb dX6_stateOf_5 (by decide) ?_
  refine lv_iload_n hx hb dX6_stateOf_6 rfl (lv_at hl 1 rfl) ?_
  refine lv_ishl hx hb dX6_stateOf_7 ?_
  refine lv_topi (fun v_2 ev_2 => ?_)
  have h := ltv_at h v_2 ev_2
  refine lv_istore_n (lv' := [(2, .int v_2), (0, .ref (q 0)), (1, .int x1)]) hx hb dX6_stateOf_8 rfl hl (by decide) rfl (fun ls hl => ?_)
  refine lv_aload_n hx hb dX6_stateOf_9 rfl (lv_at hl 1 rfl) ?_
  refine va_get (D := G.1) (ci := 5) (v := .ref (q 1)) (C := RX6) (T := TX6) (N := 7) hx hb hts in_wsX6_stateOf_X6 hown hK.1 hP 0 rfl rfl 0 (by decide) (w_mem hts 1 rfl) (fun _ h9 => h9) rfl dX6_stateOf_10 ?_
  refine lv_aload_n hx hb dX6_stateOf_13 rfl (lv_at hl 1 rfl) ?_
  refine va_get (D := G.1) (ci := 5) (v := .ref (q 2)) (C := RX6) (T := TX6) (N := 7) hx hb hts in_wsX6_stateOf_X6 hown hK.1 hP 0 rfl rfl 1 (by decide) (w_mem hts 2 rfl) (fun _ h9 => h9) rfl dX6_stateOf_14 ?_
  refine lv_iconst (v := 0) hx hb dX6_stateOf_17 (by decide) ?_
  refine lv_iconst (v := 0) hx hb dX6_stateOf_18 (by decide) ?_
  refine lv_aload_n hx hb dX6_stateOf_19 rfl (lv_at hl 1 rfl) ?_
  refine va_get (D := G.1) (ci := 5) (v := .int (C.1 0)) (C := RX6) (T := TX6) (N := 7) hx hb hts in_wsX6_stateOf_X6 hown hK.1 hP 0 rfl rfl 5 (by decide) (w_mem hts 3 rfl) (fun _ h9 => h9) rfl dX6_stateOf_20 ?_
  refine lv_iload_n hx hb dX6_stateOf_23 rfl (lv_at hl 0 rfl) ?_
  refine lv_ior hx hb dX6_stateOf_24 ?_
  refine lv_aload_n hx hb dX6_stateOf_25 rfl (lv_at hl 1 rfl) ?_
  refine va_get (D := G.1) (ci := 5) (v := .int (C.1 1)) (C := RX6) (T := TX6) (N := 7) hx hb hts in_wsX6_stateOf_X6 hown hK.1 hP 0 rfl rfl 6 (by decide) (w_mem hts 4 rfl) (fun _ h9 => h9) rfl dX6_stateOf_26 ?_
  obtain ⟨r_3, hr_3, h⟩ := bd_ex h
  refine ro_i (va_runSN (As := [.ref (q 1), .ref (q 2), .int 0, .int 0, .int ((C.1 0) ||| v_2), .int (C.1 1)]) (rest := []) ⟨hx, hb, hml, hown, hts⟩ (kX4_reaches l RU G q C 0 0 ((C.1 0) ||| v_2) (C.1 1) r_3 hr_3) ⟨va_cnB 6 hts gX6_stateOf_X4_reaches_n141 rfl rfl rfl (hK.2.nw 7 rfl) (w_mem hts 13 rfl) (by decide +kernel) ⟨Nat.le_of_ble_eq_true rfl, Nat.le_of_ble_eq_true rfl⟩, (w_mem hts 12 rfl), trivial⟩ (roS hP hK) rfl rfl hl.1 rfl (lv_room (Nat.le_of_ble_eq_true rfl)) dX6_stateOf_29 ⟨Nat.zero_le _, Nat.zero_le _⟩) ?_
  refine lv_istore_n (lv' := [(3, .int r_3), (2, .int v_2), (0, .ref (q 0)), (1, .int x1)]) hx hb dX6_stateOf_32 rfl hl (by decide) rfl (fun ls hl => ?_)
  refine lv_aload_n hx hb dX6_stateOf_33 rfl (lv_at hl 2 rfl) ?_
  refine va_get (D := G.1) (ci := 5) (v := .ref (q 1)) (C := RX6) (T := TX6) (N := 7) hx hb hts in_wsX6_stateOf_X6 hown hK.1 hP 0 rfl rfl 0 (by decide) (w_mem hts 1 rfl) (fun _ h9 => h9) rfl dX6_stateOf_34 ?_
  refine lv_aload_n hx hb dX6_stateOf_37 rfl (lv_at hl 2 rfl) ?_
  refine va_get (D := G.1) (ci := 5) (v := .ref (q 2)) (C := RX6) (T := TX6) (N := 7) hx hb hts in_wsX6_stateOf_X6 hown hK.1 hP 0 rfl rfl 1 (by decide) (w_mem hts 2 rfl) (fun _ h9 => h9) rfl dX6_stateOf_38 ?_
  refine lv_iconst (v := 0) hx hb dX6_stateOf_41 (by decide) ?_
  refine lv_iconst (v := 0) hx hb dX6_stateOf_42 (by decide) ?_
  refine lv_aload_n hx hb dX6_stateOf_43 rfl (lv_at hl 2 rfl) ?_
  refine va_get (D := G.1) (ci := 5) (v := .int (C.1 0)) (C := RX6) (T := TX6) (N := 7) hx hb hts in_wsX6_stateOf_X6 hown hK.1 hP 0 rfl rfl 5 (by decide) (w_mem hts 3 rfl) (fun _ h9 => h9) rfl dX6_stateOf_44 ?_
  refine lv_aload_n hx hb dX6_stateOf_47 rfl (lv_at hl 2 rfl) ?_
  refine va_get (D := G.1) (ci := 5) (v := .int (C.1 1)) (C := RX6) (T := TX6) (N := 7) hx hb hts in_wsX6_stateOf_X6 hown hK.1 hP 0 rfl rfl 6 (by decide) (w_mem hts 4 rfl) (fun _ h9 => h9) rfl dX6_stateOf_48 ?_
  refine lv_iload_n hx hb dX6_stateOf_51 rfl (lv_at hl 1 rfl) ?_
  refine lv_ior hx hb dX6_stateOf_52 ?_
  obtain ⟨r_4, hr_4, h⟩ := bd_ex h
  refine ro_i (va_runSN (As := [.ref (q 1), .ref (q 2), .int 0, .int 0, .int (C.1 0), .int ((C.1 1) ||| v_2)]) (rest := []) ⟨hx, hb, hml, hown, hts⟩ (kX4_reaches l RU G q C 0 0 (C.1 0) ((C.1 1) ||| v_2) r_4 hr_4) ⟨va_cnB 6 hts gX6_stateOf_X4_reaches_n141 rfl rfl rfl (hK.2.nw 7 rfl) (w_mem hts 13 rfl) (by decide +kernel) ⟨Nat.le_of_ble_eq_true rfl, Nat.le_of_ble_eq_true rfl⟩, (w_mem hts 12 rfl), trivial⟩ (roS hP hK) rfl rfl hl.1 rfl (lv_room (Nat.le_of_ble_eq_true rfl)) dX6_stateOf_53 ⟨Nat.zero_le _, Nat.zero_le _⟩) ?_
  refine lv_istore (lv' := [(4, .int r_4), (3, .int r_3), (2, .int v_2), (0, .ref (q 0)), (1, .int x1)]) hx hb dX6_stateOf_56 hl (by decide) rfl (fun ls hl => ?_)
  refine lv_aload_n hx hb dX6_stateOf_58 rfl (lv_at hl 3 rfl) ?_
  refine lv_iload_n hx hb dX6_stateOf_59 rfl (lv_at hl 4 rfl) ?_
  refine lv_iload_n hx hb dX6_stateOf_60 rfl (lv_at hl 1 rfl) ?_
  refine lv_iload hx hb dX6_stateOf_61 (lv_at hl 0 rfl) ?_
  obtain ⟨r_5, hr_5, h⟩ := bd_ex h
  refine ro_i (va_runV (As := [.int x1, .int r_3, .int r_4]) (rest := []) ⟨hx, hb, hml, hown, hts⟩ (kX6_stateLetter l G q C x1 r_3 r_4 r_5 hr_5) (cwV 3 hts gX6_stateOf_X6_stateLetter rfl rfl rfl (by decide +kernel) ⟨Nat.le_of_ble_eq_true rfl, Nat.le_of_ble_eq_true rfl⟩) (roV hP hK 5 0 rfl rfl) rfl rfl hl.1 rfl (lv_room (Nat.le_of_ble_eq_true rfl)) dX6_stateOf_63 ⟨Nat.zero_le _, Nat.zero_le _⟩) ?_
  obtain ⟨g66, h⟩ := gd_ex h
  cases h

def rmX6_stateByAll : Room := { frames := 6, cells := 0, slots := 0, locals := 133 }

set_option maxHeartbeats 4000000 in
set_option maxRecDepth 100000 in
theorem wX6_stateByAll_30 {p : Program} {l : Launch} {e : Env} {s : State} {m : MethodId} {args : Array Value} {below : List Frame} {meth : Method} {c : Code} {G : GT} {q : Nat → Nat} {C : St} {out : Int32} (bx : BX p RX6 wsX6_stateByAll cX6_stateByAll 4 (some .char) s m args meth c) (hP : va_P G.1 vwCl (CW G q C) s.heap) (hK : CK G s) (x1 : Int32) (x2 : Int32) (t0 : Int32) (h : pX6_stateByAll_30 C x1 x2 t0 = some (.inr out)) (ls : Array Slot) (hl : lv_has ls 4 [(0, .ref (q 0)), (1, .int x1), (2, .int x2)]) : GoI p l e rmX6_stateByAll s m args below meth c out (F0 m 30 ls [.int t0]) := by
  obtain ⟨hx, hb, hr, hts, hown, hml, hlocks⟩ := id bx
  unfold pX6_stateByAll_30 at h
  refine lv_istore_n (lv' := [(3, .int t0), (0, .ref (q 0)), (1, .int x1), (2, .int x2)]) hx hb dX6_stateByAll_30 rfl hl (by decide) rfl (fun ls hl => ?_)
  refine lv_aload_n hx hb dX6_stateByAll_31 rfl (lv_at hl 1 rfl) ?_
  refine lv_iload_n hx hb dX6_stateByAll_32 rfl (lv_at hl 2 rfl) ?_
  refine lv_iload_n hx hb dX6_stateByAll_33 rfl (lv_at hl 3 rfl) ?_
  refine lv_iload_n hx hb dX6_stateByAll_34 rfl (lv_at hl 0 rfl) ?_
  obtain ⟨r_6, hr_6, h⟩ := bd_ex h
  refine ro_i (va_runV (As := [.int x1, .int x2, .int t0]) (rest := []) ⟨hx, hb, hml, hown, hts⟩ (kX6_stateLetter l G q C x1 x2 t0 r_6 hr_6) (cwV 3 hts gX6_stateByAll_X6_stateLetter rfl rfl rfl (by decide +kernel) ⟨Nat.le_of_ble_eq_true rfl, Nat.le_of_ble_eq_true rfl⟩) (roV hP hK 5 0 rfl rfl) rfl rfl hl.1 rfl (lv_room (Nat.le_of_ble_eq_true rfl)) dX6_stateByAll_35 ⟨Nat.zero_le _, Nat.zero_le _⟩) ?_
  obtain ⟨g38, h⟩ := gd_ex h
  exact GoI.end hx hb hr hlocks dX6_stateByAll_38 (okC_n g38) (nn_ h)

set_option maxHeartbeats 4000000 in
set_option maxRecDepth 100000 in
theorem kX6_stateByAll (l : Launch) (G : GT) (q : Nat → Nat) (C : St) (x1 : Int32) (r : Int32) (h : pX6_stateByAll C x1 = some (.inr r)) : Met l yX6_stateByAll wsX6_stateByAll rmX6_stateByAll (va_Pc [.ref (q 0), .int x1] (roP G (CW G q C))) (vp_Si (fun v => v = r)) 0 0 (fun _ => False) := by
  refine Met.ofW (cc := cX6_stateByAll) (maxL := 4) (ret := (some .char)) (by decide) rfl ?_
  intro p e s m args below meth c s₁ B hml hv
  obtain ⟨rfl, hP, hK⟩ := hv
  have bx := bx_of B hml
  obtain ⟨hx, hb, hr, hts, hown, hml, hlocks⟩ := id bx
  have hl := lv_entry ([.ref (q 0), .int x1]) (n := 4) (Nat.le_of_ble_eq_true rfl)
  rw [lg_entry_eq]
  generalize (lg_sl ([.ref (q 0), .int x1]) ++ List.replicate (4 - (lg_sl ([.ref (q 0), .int x1])).length) Slot.unset).toArray = ls at hl ⊢
  have hl : lv_has ls 4 [(0, .ref (q 0)), (1, .int x1)] := hl
  show GoI p l e rmX6_stateByAll s m _ below meth c r (F0 m 0 ls [])
  unfold pX6_stateByAll at h
  refine lv_aload_n hx hb dX6_stateByAll_0 rfl (lv_at hl 0 rfl) ?_
  refine lv_iload_n hx hb dX6_stateByAll_1 rfl (lv_at hl 1 rfl) ?_
  obtain ⟨r_1, hr_1, h⟩ := tb_N h
  refine ro_v (va_runV (As := [.int x1]) (rest := []) ⟨hx, hb, hml, hown, hts⟩ (kX6_checkFeature l G q C x1 r_1 hr_1) (cwV 1 hts gX6_stateByAll_X6_checkFeature rfl rfl rfl (by decide +kernel) ⟨Nat.le_of_ble_eq_true rfl, Nat.le_of_ble_eq_true rfl⟩) (roV hP hK 5 0 rfl rfl) rfl rfl hl.1 rfl (lv_room (Nat.le_of_ble_eq_true rfl)) dX6_stateByAll_2 ⟨Nat.zero_le _, Nat.zero_le _⟩) ?_
  refine lv_aload_n hx hb dX6_stateByAll_5 rfl (lv_at hl 0 rfl) ?_
  obtain ⟨r_2, hr_2, h⟩ := bd_ex h
  refine ro_i (va_runV (As := []) (rest := []) ⟨hx, hb, hml, hown, hts⟩ (kX6_featuresInSome l G q C r_2 hr_2) (cwV 0 hts gX6_stateByAll_X6_featuresInSome rfl rfl rfl (by decide +kernel) ⟨Nat.le_of_ble_eq_true rfl, Nat.le_of_ble_eq_true rfl⟩) (roV hP hK 5 0 rfl rfl) rfl rfl hl.1 rfl (lv_room (Nat.le_of_ble_eq_true rfl)) dX6_stateByAll_6 ⟨Nat.zero_le _, Nat.zero_le _⟩) ?_
  refine lv_iload_n hx hb dX6_stateByAll_9 rfl (lv_at hl 1 rfl) ?_
  obtain ⟨r_3, hr_3, h⟩ := bd_ex h
  refine ro_i (va_runS (As := [.int r_2, .int x1]) (rest := []) ⟨hx, hb, hml, hown, hts⟩ (kX6_has l G q C r_2 x1 r_3 hr_3) (va_cwS 2 hts gX6_stateByAll_X6_has rfl rfl rfl (by decide +kernel) ⟨Nat.le_of_ble_eq_true rfl, Nat.le_of_ble_eq_true rfl⟩) (roS hP hK) rfl rfl hl.1 rfl (lv_room (Nat.le_of_ble_eq_true rfl)) dX6_stateByAll_10 ⟨Nat.zero_le _, Nat.zero_le _⟩) ?_
  refine lv_istore_n (lv' := [(2, .int r_3), (0, .ref (q 0)), (1, .int x1)]) hx hb dX6_stateByAll_13 rfl hl (by decide) rfl (fun ls hl => ?_)
  refine lv_aload_n hx hb dX6_stateByAll_14 rfl (lv_at hl 1 rfl) ?_
  obtain ⟨r_4, hr_4, h⟩ := bd_ex h
  refine ro_i (va_runV (As := []) (rest := []) ⟨hx, hb, hml, hown, hts⟩ (kX6_featuresInAll l G q C r_4 hr_4) (cwV 0 hts gX6_stateByAll_X6_featuresInAll rfl rfl rfl (by decide +kernel) ⟨Nat.le_of_ble_eq_true rfl, Nat.le_of_ble_eq_true rfl⟩) (roV hP hK 5 0 rfl rfl) rfl rfl hl.1 rfl (lv_room (Nat.le_of_ble_eq_true rfl)) dX6_stateByAll_15 ⟨Nat.zero_le _, Nat.zero_le _⟩) ?_
  refine lv_iload_n hx hb dX6_stateByAll_18 rfl (lv_at hl 2 rfl) ?_
  obtain ⟨r_5, hr_5, h⟩ := bd_ex h
  refine ro_i (va_runS (As := [.int r_4, .int x1]) (rest := []) ⟨hx, hb, hml, hown, hts⟩ (kX6_has l G q C r_4 x1 r_5 hr_5) (va_cwS 2 hts gX6_stateByAll_X6_has rfl rfl rfl (by decide +kernel) ⟨Nat.le_of_ble_eq_true rfl, Nat.le_of_ble_eq_true rfl⟩) (roS hP hK) rfl rfl hl.1 rfl (lv_room (Nat.le_of_ble_eq_true rfl)) dX6_stateByAll_19 ⟨Nat.zero_le _, Nat.zero_le _⟩) ?_
  refine lv_if_ne (tgt := 29) hx hb dX6_stateByAll_22 (by decide) (fun c_22 => ?_) (fun c_22 => ?_)
  · have h := br_F h c_22
    refine lv_iconst (v := 0) hx hb dX6_stateByAll_29 (by decide) ?_
    exact wX6_stateByAll_30 bx hP hK x1 r_3 0 h _ (lv_sub hl [1, 2, 0] rfl)
  · have h := br_T h c_22
    refine lv_iconst (v := 1) hx hb dX6_stateByAll_25 (by decide) ?_
    refine lv_goto (tgt := 30) hx hb dX6_stateByAll_26 (by decide) ?_
    exact wX6_stateByAll_30 bx hP hK x1 r_3 1 h _ (lv_sub hl [1, 2, 0] rfl)

def rxX6_stateByAll : Room := { frames := 7, cells := 1, slots := 6, locals := 133 }

set_option maxHeartbeats 4000000 in
set_option maxRecDepth 100000 in
theorem xX6_stateByAll_30 {p : Program} {l : Launch} {e : Env} {s : State} {m : MethodId} {args : Array Value} {below : List Frame} {meth : Method} {c : Code} {G : GT} {q : Nat → Nat} {A : Nat → Prop} {out : Nat} (bx : BX p RX6 wsX6_stateByAll cX6_stateByAll 4 (some .char) s m args meth c) (hA : ∀ q : Nat, s.heap.size ≤ q → A q) (hK : CK G s) (hl0 : l.stackTraces = false) (hE : XE A s) (hex : ∀ x ∈ c.exceptionTable.toList, False) (C : St) (x1 : Int32) (x2 : Int32) (t0 : Int32) (h : pX6_stateByAll_30 C x1 x2 t0 = some (.inl out)) {H : Heap} {locs : List Loc} (hP : va_P G.1 vwCl (CW G q C) H) (hD : va_D A (CW G q C)) (hS : va_S A s.heap H locs) (ls : Array Slot) (hl : lv_has ls 4 [(0, .ref (q 0)), (1, .int x1), (2, .int x2)]) : W p l e rxX6_stateByAll s m args below meth c H locs 0 0 (MQx G (CW G q) A s args below (out, C)) (F0 m 30 ls [.int t0]) := by
  obtain ⟨hx, hb, hr, hts, hown, hml, hlocks⟩ := id bx
  unfold pX6_stateByAll_30 at h
  refine lv_istore_n (lv' := [(3, .int t0), (0, .ref (q 0)), (1, .int x1), (2, .int x2)]) hx hb dX6_stateByAll_30 rfl hl (by decide) rfl (fun ls hl => ?_)
  refine lv_aload_n hx hb dX6_stateByAll_31 rfl (lv_at hl 1 rfl) ?_
  refine lv_iload_n hx hb dX6_stateByAll_32 rfl (lv_at hl 2 rfl) ?_
  refine lv_iload_n hx hb dX6_stateByAll_33 rfl (lv_at hl 3 rfl) ?_
  refine lv_iload_n hx hb dX6_stateByAll_34 rfl (lv_at hl 0 rfl) ?_
  obtain ⟨r_6, hr_6, h⟩ := bd_ex h
  refine ro_i (va_runV (As := [.int x1, .int x2, .int t0]) (rest := []) ⟨hx, hb, hml, hown, hts⟩ (kX6_stateLetter l G q C x1 x2 t0 r_6 hr_6) (cwV 3 hts gX6_stateByAll_X6_stateLetter rfl rfl rfl (by decide +kernel) ⟨Nat.le_of_ble_eq_true rfl, Nat.le_of_ble_eq_true rfl⟩) (roV hP hK 5 0 rfl rfl) rfl rfl hl.1 rfl (lv_room (Nat.le_of_ble_eq_true rfl)) dX6_stateByAll_35 ⟨Nat.zero_le _, Nat.zero_le _⟩) ?_
  obtain ⟨g38, h⟩ := gd_ex h
  cases h

set_option maxHeartbeats 4000000 in
set_option maxRecDepth 100000 in
theorem xX6_stateByAll (l : Launch) (hl0 : l.stackTraces = false) (G : GT) (q : Nat → Nat) (C : St) (sz : Nat) (x1 : Int32) (r : Nat) (h : pX6_stateByAll C x1 = some (.inl r)) : vx_Met l yX6_stateByAll wsX6_stateByAll rxX6_stateByAll (va_Pc [.ref (q 0), .int x1] (xP G (CW G q C) sz)) (fun _ _ _ _ => False) (XCf G (CW G q) (va_A (CW G q C) sz) (r, C)) 1 6 (va_A (CW G q C) sz) := by
  refine vx_ofW (cc := cX6_stateByAll) (maxL := 4) (ret := (some .char)) (by decide) rfl ?_
  intro p e s m args below meth c s₁ B hml hex hv
  obtain ⟨rfl, ⟨hsz, hP, hK, hD0⟩, hE⟩ := hv
  have bx := bx_of B hml
  subst hsz
  have hD := hD0.self (sz := s.heap.size)
  generalize hAe : va_A (CW G q C) s.heap.size = A at hD hE ⊢
  have hA : ∀ q : Nat, s.heap.size ≤ q → A q := fun q h => by rw [← hAe]; exact Or.inr h
  have hS : va_S A s.heap s.heap [] := va_S.rf
  obtain ⟨hx, hb, hr, hts, hown, hml, hlocks⟩ := id bx
  have hl := lv_entry ([.ref (q 0), .int x1]) (n := 4) (Nat.le_of_ble_eq_true rfl)
  rw [lg_entry_eq]
  generalize (lg_sl ([.ref (q 0), .int x1]) ++ List.replicate (4 - (lg_sl ([.ref (q 0), .int x1])).length) Slot.unset).toArray = ls at hl ⊢
  have hl : lv_has ls 4 [(0, .ref (q 0)), (1, .int x1)] := hl
  show W p l e rxX6_stateByAll s m _ below meth c s.heap [] 0 0 (MQx G (CW G q) A s _ below (r, C)) (F0 m 0 ls [])
  unfold pX6_stateByAll at h
  refine lv_aload_n hx hb dX6_stateByAll_0 rfl (lv_at hl 0 rfl) ?_
  refine lv_iload_n hx hb dX6_stateByAll_1 rfl (lv_at hl 1 rfl) ?_
  rcases tb_X h with ⟨er_1, hr_1, h⟩ | ⟨r_1, hr_1, h⟩
  · exact x_prop (Wd := CW G q) (vx_runV (As := [.int x1]) (rest := []) ⟨hx, hb, hml, hown, hts⟩ (xX6_checkFeature l hl0 G q C _ x1 er_1 hr_1) (cwV 1 hts gX6_stateByAll_X6_checkFeature rfl rfl rfl (by decide +kernel) ⟨Nat.le_of_ble_eq_true rfl, Nat.le_of_ble_eq_true rfl⟩) (xV hP hD hS hK hA hE 5 0 rfl rfl) rfl rfl hl.1 rfl (lv_room (Nat.le_of_ble_eq_true rfl)) dX6_stateByAll_2 ⟨Nat.le_of_ble_eq_true rfl, Nat.le_of_ble_eq_true rfl⟩) hD hS hA (fun _ => rfl) hex hlocks (congrArg (fun z => (z, C)) h)
  refine ro_v (va_runV (As := [.int x1]) (rest := []) ⟨hx, hb, hml, hown, hts⟩ (kX6_checkFeature l G q C x1 r_1 hr_1) (cwV 1 hts gX6_stateByAll_X6_checkFeature rfl rfl rfl (by decide +kernel) ⟨Nat.le_of_ble_eq_true rfl, Nat.le_of_ble_eq_true rfl⟩) (roV hP hK 5 0 rfl rfl) rfl rfl hl.1 rfl (lv_room (Nat.le_of_ble_eq_true rfl)) dX6_stateByAll_2 ⟨Nat.zero_le _, Nat.zero_le _⟩) ?_
  refine lv_aload_n hx hb dX6_stateByAll_5 rfl (lv_at hl 0 rfl) ?_
  obtain ⟨r_2, hr_2, h⟩ := bd_ex h
  refine ro_i (va_runV (As := []) (rest := []) ⟨hx, hb, hml, hown, hts⟩ (kX6_featuresInSome l G q C r_2 hr_2) (cwV 0 hts gX6_stateByAll_X6_featuresInSome rfl rfl rfl (by decide +kernel) ⟨Nat.le_of_ble_eq_true rfl, Nat.le_of_ble_eq_true rfl⟩) (roV hP hK 5 0 rfl rfl) rfl rfl hl.1 rfl (lv_room (Nat.le_of_ble_eq_true rfl)) dX6_stateByAll_6 ⟨Nat.zero_le _, Nat.zero_le _⟩) ?_
  refine lv_iload_n hx hb dX6_stateByAll_9 rfl (lv_at hl 1 rfl) ?_
  obtain ⟨r_3, hr_3, h⟩ := bd_ex h
  refine ro_i (va_runS (As := [.int r_2, .int x1]) (rest := []) ⟨hx, hb, hml, hown, hts⟩ (kX6_has l G q C r_2 x1 r_3 hr_3) (va_cwS 2 hts gX6_stateByAll_X6_has rfl rfl rfl (by decide +kernel) ⟨Nat.le_of_ble_eq_true rfl, Nat.le_of_ble_eq_true rfl⟩) (roS hP hK) rfl rfl hl.1 rfl (lv_room (Nat.le_of_ble_eq_true rfl)) dX6_stateByAll_10 ⟨Nat.zero_le _, Nat.zero_le _⟩) ?_
  refine lv_istore_n (lv' := [(2, .int r_3), (0, .ref (q 0)), (1, .int x1)]) hx hb dX6_stateByAll_13 rfl hl (by decide) rfl (fun ls hl => ?_)
  refine lv_aload_n hx hb dX6_stateByAll_14 rfl (lv_at hl 1 rfl) ?_
  obtain ⟨r_4, hr_4, h⟩ := bd_ex h
  refine ro_i (va_runV (As := []) (rest := []) ⟨hx, hb, hml, hown, hts⟩ (kX6_featuresInAll l G q C r_4 hr_4) (cwV 0 hts gX6_stateByAll_X6_featuresInAll rfl rfl rfl (by decide +kernel) ⟨Nat.le_of_ble_eq_true rfl, Nat.le_of_ble_eq_true rfl⟩) (roV hP hK 5 0 rfl rfl) rfl rfl hl.1 rfl (lv_room (Nat.le_of_ble_eq_true rfl)) dX6_stateByAll_15 ⟨Nat.zero_le _, Nat.zero_le _⟩) ?_
  refine lv_iload_n hx hb dX6_stateByAll_18 rfl (lv_at hl 2 rfl) ?_
  obtain ⟨r_5, hr_5, h⟩ := bd_ex h
  refine ro_i (va_runS (As := [.int r_4, .int x1]) (rest := []) ⟨hx, hb, hml, hown, hts⟩ (kX6_has l G q C r_4 x1 r_5 hr_5) (va_cwS 2 hts gX6_stateByAll_X6_has rfl rfl rfl (by decide +kernel) ⟨Nat.le_of_ble_eq_true rfl, Nat.le_of_ble_eq_true rfl⟩) (roS hP hK) rfl rfl hl.1 rfl (lv_room (Nat.le_of_ble_eq_true rfl)) dX6_stateByAll_19 ⟨Nat.zero_le _, Nat.zero_le _⟩) ?_
  refine lv_if_ne (tgt := 29) hx hb dX6_stateByAll_22 (by decide) (fun c_22 => ?_) (fun c_22 => ?_)
  · have h := br_F h c_22
    refine lv_iconst (v := 0) hx hb dX6_stateByAll_29 (by decide) ?_
    exact xX6_stateByAll_30 bx hA hK hl0 hE hex C x1 r_3 0 h hP hD hS _ (lv_sub hl [1, 2, 0] rfl)
  · have h := br_T h c_22
    refine lv_iconst (v := 1) hx hb dX6_stateByAll_25 (by decide) ?_
    refine lv_goto (tgt := 30) hx hb dX6_stateByAll_26 (by decide) ?_
    exact xX6_stateByAll_30 bx hA hK hl0 hE hex C x1 r_3 1 h hP hD hS _ (lv_sub hl [1, 2, 0] rfl)

def rmX6_isConfiguration : Room := { frames := 4, cells := 0, slots := 0, locals := 89 }

set_option maxHeartbeats 4000000 in
set_option maxRecDepth 100000 in
theorem kX6_isConfiguration (l : Launch) (G : GT) (q : Nat → Nat) (C : St) (x1 : Int32) (r : Int32) (h : pX6_isConfiguration C x1 = some (.inr r)) : Met l yX6_isConfiguration wsX6_isConfiguration rmX6_isConfiguration (va_Pc [.ref (q 0), .int x1] (roP G (CW G q C))) (vp_Si (fun v => v = r)) 0 0 (fun _ => False) := by
  refine Met.ofW (cc := cX6_isConfiguration) (maxL := 2) (ret := (some .boolean)) (by decide) rfl ?_
  intro p e s m args below meth c s₁ B hml hv
  obtain ⟨rfl, hP, hK⟩ := hv
  have bx := bx_of B hml
  obtain ⟨hx, hb, hr, hts, hown, hml, hlocks⟩ := id bx
  have hl := lv_entry ([.ref (q 0), .int x1]) (n := 2) (Nat.le_of_ble_eq_true rfl)
  rw [lg_entry_eq]
  generalize (lg_sl ([.ref (q 0), .int x1]) ++ List.replicate (2 - (lg_sl ([.ref (q 0), .int x1])).length) Slot.unset).toArray = ls at hl ⊢
  have hl : lv_has ls 2 [(0, .ref (q 0)), (1, .int x1)] := hl
  show GoI p l e rmX6_isConfiguration s m _ below meth c r (F0 m 0 ls [])
  unfold pX6_isConfiguration at h
  refine lv_aload_n hx hb dX6_isConfiguration_0 rfl (lv_at hl 0 rfl) ?_
  refine lv_iload_n hx hb dX6_isConfiguration_1 rfl (lv_at hl 1 rfl) ?_
  obtain ⟨r_1, hr_1, h⟩ := tb_N h
  refine ro_v (va_runV (As := [.int x1]) (rest := []) ⟨hx, hb, hml, hown, hts⟩ (kX6_checkSet l G q C x1 r_1 hr_1) (cwV 1 hts gX6_isConfiguration_X6_checkSet rfl rfl rfl (by decide +kernel) ⟨Nat.le_of_ble_eq_true rfl, Nat.le_of_ble_eq_true rfl⟩) (roV hP hK 5 0 rfl rfl) rfl rfl hl.1 rfl (lv_room (Nat.le_of_ble_eq_true rfl)) dX6_isConfiguration_2 ⟨Nat.zero_le _, Nat.zero_le _⟩) ?_
  refine lv_aload_n hx hb dX6_isConfiguration_5 rfl (lv_at hl 0 rfl) ?_
  refine lv_iload_n hx hb dX6_isConfiguration_6 rfl (lv_at hl 1 rfl) ?_
  obtain ⟨r_2, hr_2, h⟩ := bd_ex h
  refine ro_i (va_runV (As := [.int x1]) (rest := []) ⟨hx, hb, hml, hown, hts⟩ (kX6_isAllowed l G q C x1 r_2 hr_2) (cwV 1 hts gX6_isConfiguration_X6_isAllowed rfl rfl rfl (by decide +kernel) ⟨Nat.le_of_ble_eq_true rfl, Nat.le_of_ble_eq_true rfl⟩) (roV hP hK 5 0 rfl rfl) rfl rfl hl.1 rfl (lv_room (Nat.le_of_ble_eq_true rfl)) dX6_isConfiguration_7 ⟨Nat.zero_le _, Nat.zero_le _⟩) ?_
  obtain ⟨g10, h⟩ := gd_ex h
  exact GoI.end hx hb hr hlocks dX6_isConfiguration_10 (okZ_n g10) (nn_ h)

def rxX6_isConfiguration : Room := { frames := 7, cells := 1, slots := 6, locals := 121 }

set_option maxHeartbeats 4000000 in
set_option maxRecDepth 100000 in
theorem xX6_isConfiguration (l : Launch) (hl0 : l.stackTraces = false) (G : GT) (q : Nat → Nat) (C : St) (sz : Nat) (x1 : Int32) (r : Nat) (h : pX6_isConfiguration C x1 = some (.inl r)) : vx_Met l yX6_isConfiguration wsX6_isConfiguration rxX6_isConfiguration (va_Pc [.ref (q 0), .int x1] (xP G (CW G q C) sz)) (fun _ _ _ _ => False) (XCf G (CW G q) (va_A (CW G q C) sz) (r, C)) 1 6 (va_A (CW G q C) sz) := by
  refine vx_ofW (cc := cX6_isConfiguration) (maxL := 2) (ret := (some .boolean)) (by decide) rfl ?_
  intro p e s m args below meth c s₁ B hml hex hv
  obtain ⟨rfl, ⟨hsz, hP, hK, hD0⟩, hE⟩ := hv
  have bx := bx_of B hml
  subst hsz
  have hD := hD0.self (sz := s.heap.size)
  generalize hAe : va_A (CW G q C) s.heap.size = A at hD hE ⊢
  have hA : ∀ q : Nat, s.heap.size ≤ q → A q := fun q h => by rw [← hAe]; exact Or.inr h
  have hS : va_S A s.heap s.heap [] := va_S.rf
  obtain ⟨hx, hb, hr, hts, hown, hml, hlocks⟩ := id bx
  have hl := lv_entry ([.ref (q 0), .int x1]) (n := 2) (Nat.le_of_ble_eq_true rfl)
  rw [lg_entry_eq]
  generalize (lg_sl ([.ref (q 0), .int x1]) ++ List.replicate (2 - (lg_sl ([.ref (q 0), .int x1])).length) Slot.unset).toArray = ls at hl ⊢
  have hl : lv_has ls 2 [(0, .ref (q 0)), (1, .int x1)] := hl
  show W p l e rxX6_isConfiguration s m _ below meth c s.heap [] 0 0 (MQx G (CW G q) A s _ below (r, C)) (F0 m 0 ls [])
  unfold pX6_isConfiguration at h
  refine lv_aload_n hx hb dX6_isConfiguration_0 rfl (lv_at hl 0 rfl) ?_
  refine lv_iload_n hx hb dX6_isConfiguration_1 rfl (lv_at hl 1 rfl) ?_
  rcases tb_X h with ⟨er_1, hr_1, h⟩ | ⟨r_1, hr_1, h⟩
  · exact x_prop (Wd := CW G q) (vx_runV (As := [.int x1]) (rest := []) ⟨hx, hb, hml, hown, hts⟩ (xX6_checkSet l hl0 G q C _ x1 er_1 hr_1) (cwV 1 hts gX6_isConfiguration_X6_checkSet rfl rfl rfl (by decide +kernel) ⟨Nat.le_of_ble_eq_true rfl, Nat.le_of_ble_eq_true rfl⟩) (xV hP hD hS hK hA hE 5 0 rfl rfl) rfl rfl hl.1 rfl (lv_room (Nat.le_of_ble_eq_true rfl)) dX6_isConfiguration_2 ⟨Nat.le_of_ble_eq_true rfl, Nat.le_of_ble_eq_true rfl⟩) hD hS hA (fun _ => rfl) hex hlocks (congrArg (fun z => (z, C)) h)
  refine ro_v (va_runV (As := [.int x1]) (rest := []) ⟨hx, hb, hml, hown, hts⟩ (kX6_checkSet l G q C x1 r_1 hr_1) (cwV 1 hts gX6_isConfiguration_X6_checkSet rfl rfl rfl (by decide +kernel) ⟨Nat.le_of_ble_eq_true rfl, Nat.le_of_ble_eq_true rfl⟩) (roV hP hK 5 0 rfl rfl) rfl rfl hl.1 rfl (lv_room (Nat.le_of_ble_eq_true rfl)) dX6_isConfiguration_2 ⟨Nat.zero_le _, Nat.zero_le _⟩) ?_
  refine lv_aload_n hx hb dX6_isConfiguration_5 rfl (lv_at hl 0 rfl) ?_
  refine lv_iload_n hx hb dX6_isConfiguration_6 rfl (lv_at hl 1 rfl) ?_
  obtain ⟨r_2, hr_2, h⟩ := bd_ex h
  refine ro_i (va_runV (As := [.int x1]) (rest := []) ⟨hx, hb, hml, hown, hts⟩ (kX6_isAllowed l G q C x1 r_2 hr_2) (cwV 1 hts gX6_isConfiguration_X6_isAllowed rfl rfl rfl (by decide +kernel) ⟨Nat.le_of_ble_eq_true rfl, Nat.le_of_ble_eq_true rfl⟩) (roV hP hK 5 0 rfl rfl) rfl rfl hl.1 rfl (lv_room (Nat.le_of_ble_eq_true rfl)) dX6_isConfiguration_7 ⟨Nat.zero_le _, Nat.zero_le _⟩) ?_
  obtain ⟨g10, h⟩ := gd_ex h
  cases h
