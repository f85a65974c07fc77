def rmX7_price : Room := { frames := 2, cells := 0, slots := 0, locals := 63 }

set_option maxHeartbeats 4000000 in
set_option maxRecDepth 100000 in
theorem kX7_price (l : Launch) (G : GT) (q : Nat → Nat) (C : St) (sz : Nat) (x1 : Int32) (r : Int32 × St) (h : pX7_price C x1 = some r) : Met l yX7_price wsX7_price rmX7_price (va_Pc [.ref (q 0), .int x1] (wrP G (MW G q C) sz)) (va_Qi (fun v u => (v, u) = r) (fun u t => va_P G.1 vwCl (MW G q u) t.heap) (va_A (MW G q C) sz)) 0 0 (va_A (MW G q C) sz) := by
  refine Met.ofW (cc := cX7_price) (maxL := 2) (ret := (some .int)) (by decide) rfl ?_
  intro p e s m args below meth c s₁ B hml hv
  obtain ⟨rfl, hsz, hP, hK, hD0⟩ := hv
  have bx := bx_of B hml
  subst hsz
  have hD := hD0.self (sz := s.heap.size)
  generalize hAe : va_A (MW G q C) s.heap.size = A at hD ⊢
  have hA : ∀ q : Nat, s.heap.size ≤ q → A q := fun q h => by rw [← hAe]; exact Or.inr h
  have hS : va_S A s.heap s.heap [] := va_S.rf
  obtain ⟨hx, hb, hr, hts, hown, hml, hlocks⟩ := id bx
  have hl := lv_entry ([.ref (q 0), .int x1]) (n := 2) (Nat.le_of_ble_eq_true rfl)
  rw [lg_entry_eq]
  generalize (lg_sl ([.ref (q 0), .int x1]) ++ List.replicate (2 - (lg_sl ([.ref (q 0), .int x1])).length) Slot.unset).toArray = ls at hl ⊢
  have hl : lv_has ls 2 [(0, .ref (q 0)), (1, .int x1)] := hl
  show W p l e rmX7_price s m _ below meth c s.heap [] 0 0 (MQi G (MW G q) A s _ below r) (F0 m 0 ls [])
  unfold pX7_price at h
  refine lv_aload_n hx hb dX7_price_0 rfl (lv_at hl 0 rfl) ?_
  refine lv_iload_n hx hb dX7_price_1 rfl (lv_at hl 1 rfl) ?_
  obtain ⟨u_1, hu_1, h⟩ := bd_ex h
  refine wr_i (Wd := MW G q) (va_runV (As := [.int x1]) (rest := []) ⟨hx, hb, hml, hown, hts⟩ (kX7_isNoSet l G q C _ x1 u_1 hu_1) (cwV 1 hts gX7_price_X7_isNoSet rfl rfl rfl (by decide +kernel) ⟨Nat.le_of_ble_eq_true rfl, Nat.le_of_ble_eq_true rfl⟩) (wrV hP hD hK 8 0 rfl rfl) rfl rfl hl.1 rfl (lv_room (Nat.le_of_ble_eq_true rfl)) dX7_price_2 ⟨Nat.zero_le _, Nat.zero_le _⟩) hD hS hA (fun _ => rfl) (fun H locs hP hD hS => ?_)
  refine lv_if_eq (tgt := 12) hx hb dX7_price_5 (by decide) (fun c_5 => ?_) (fun c_5 => ?_)
  · have h := br_T h c_5
    refine lv_aload_n hx hb dX7_price_12 rfl (lv_at hl 0 rfl) ?_
    refine lv_iload_n hx hb dX7_price_13 rfl (lv_at hl 1 rfl) ?_
    obtain ⟨r_2, hr_2, h⟩ := bd_ex h
    refine ro_i (va_runV (As := [.int x1]) (rest := []) ⟨hx, hb, hml, hown, hts⟩ (kX7_priced l G q u_1.2 x1 r_2 hr_2) (cwV 1 hts gX7_price_X7_priced rfl rfl rfl (by decide +kernel) ⟨Nat.le_of_ble_eq_true rfl, Nat.le_of_ble_eq_true rfl⟩) (roV hP hK 8 0 rfl rfl) rfl rfl hl.1 rfl (lv_room (Nat.le_of_ble_eq_true rfl)) dX7_price_14 ⟨Nat.zero_le _, Nat.zero_le _⟩) ?_
    exact MQi.end hx hb hr hlocks hP hS dX7_price_17 rfl h
  · have h := br_F h c_5
    refine lv_iconst (v := 0) hx hb dX7_price_8 (by decide) ?_
    refine lv_goto (tgt := 17) hx hb dX7_price_9 (by decide) ?_
    exact MQi.end hx hb hr hlocks hP hS dX7_price_17 rfl h

def rmX7_cheapest : Room := { frames := 4, cells := 0, slots := 0, locals := 89 }

theorem in_wsX7_cheapest_X7 : ∀ w ∈ u_ws RX7 TX7 24, w ∈ wsX7_cheapest := by decide +kernel

set_option maxHeartbeats 4000000 in
set_option maxRecDepth 100000 in
theorem wX7_cheapest_45 {p : Program} {l : Launch} {e : Env} {s : State} {m : MethodId} {args : Array Value} {below : List Frame} {meth : Method} {c : Code} {G : GT} {q : Nat → Nat} {A : Nat → Prop} {out : Int32 × St} (bx : BX p RX7 wsX7_cheapest cX7_cheapest 3 (some .int) s m args meth c) (hA : ∀ q : Nat, s.heap.size ≤ q → A q) (hK : CK G s) {k9 : St → Int32 → Int32 → Option (Int32 × St)} (hk9 : ∀ (C : St) (x1 : Int32) (x2 : Int32), k9 C x1 x2 = some out → ∀ (H : Heap) (locs : List Loc) (hP : va_P G.1 vwCl (MW G q C) H) (hD : va_D A (MW G q C)) (hS : va_S A s.heap H locs), ∀ (ls : Array Slot), lv_has ls 3 [(0, .ref (q 0)), (1, .int x1), (2, .int x2)] → W p l e rmX7_cheapest s m args below meth c H locs 0 0 (MQi G (MW G q) A s args below out) (F0 m 9 ls [])) (C : St) (x2 : Int32) (t0 : Int32) (h : pX7_cheapest_45 k9 C x2 t0 = some out) {H : Heap} {locs : List Loc} (hP : va_P G.1 vwCl (MW G q C) H) (hD : va_D A (MW G q C)) (hS : va_S A s.heap H locs) (ls : Array Slot) (hl : lv_has ls 3 [(0, .ref (q 0)), (2, .int x2)]) : W p l e rmX7_cheapest s m args below meth c H locs 0 0 (MQi G (MW G q) A s args below out) (F0 m 45 ls [.int t0]) := by
  obtain ⟨hx, hb, hr, hts, hown, hml, hlocks⟩ := id bx
  unfold pX7_cheapest_45 at h
  refine lv_istore_n (lv' := [(1, .int t0), (0, .ref (q 0)), (2, .int x2)]) hx hb dX7_cheapest_45 rfl hl (by decide) rfl (fun ls hl => ?_)
  obtain ⟨v_3, ev_3, h⟩ := ltv_ex h
  refine lv_iinc (v := v_3) (lv' := [(2, .int v_3), (1, .int t0), (0, .ref (q 0))]) hx hb dX7_cheapest_46 hl (k := 2) rfl (by rw [ev_3]; rfl) (by decide) rfl (fun ls hl => ?_)
  refine lv_goto (tgt := 9) hx hb dX7_cheapest_49 (by decide) ?_
  exact hk9 C t0 v_3 h _ _ hP hD hS _ (lv_sub hl [2, 1, 0] rfl)

set_option maxHeartbeats 4000000 in
set_option maxRecDepth 100000 in
theorem wX7_cheapest_44 {p : Program} {l : Launch} {e : Env} {s : State} {m : MethodId} {args : Array Value} {below : List Frame} {meth : Method} {c : Code} {G : GT} {q : Nat → Nat} {A : Nat → Prop} {out : Int32 × St} (bx : BX p RX7 wsX7_cheapest cX7_cheapest 3 (some .int) s m args meth c) (hA : ∀ q : Nat, s.heap.size ≤ q → A q) (hK : CK G s) {k9 : St → Int32 → Int32 → Option (Int32 × St)} (hk9 : ∀ (C : St) (x1 : Int32) (x2 : Int32), k9 C x1 x2 = some out → ∀ (H : Heap) (locs : List Loc) (hP : va_P G.1 vwCl (MW G q C) H) (hD : va_D A (MW G q C)) (hS : va_S A s.heap H locs), ∀ (ls : Array Slot), lv_has ls 3 [(0, .ref (q 0)), (1, .int x1), (2, .int x2)] → W p l e rmX7_cheapest s m args below meth c H locs 0 0 (MQi G (MW G q) A s args below out) (F0 m 9 ls [])) (C : St) (x1 : Int32) (x2 : Int32) (h : pX7_cheapest_44 k9 C x1 x2 = some out) {H : Heap} {locs : List Loc} (hP : va_P G.1 vwCl (MW G q C) H) (hD : va_D A (MW G q C)) (hS : va_S A s.heap H locs) (ls : Array Slot) (hl : lv_has ls 3 [(0, .ref (q 0)), (1, .int x1), (2, .int x2)]) : W p l e rmX7_cheapest s m args below meth c H locs 0 0 (MQi G (MW G q) A s args below out) (F0 m 44 ls []) := by
  obtain ⟨hx, hb, hr, hts, hown, hml, hlocks⟩ := id bx
  unfold pX7_cheapest_44 at h
  refine lv_iload_n hx hb dX7_cheapest_44 rfl (lv_at hl 1 rfl) ?_
  exact wX7_cheapest_45 bx hA hK hk9 C x2 x1 h hP hD hS _ (lv_sub hl [0, 2] rfl)

set_option maxHeartbeats 4000000 in
set_option maxRecDepth 100000 in
theorem wX7_cheapest_40 {p : Program} {l : Launch} {e : Env} {s : State} {m : MethodId} {args : Array Value} {below : List Frame} {meth : Method} {c : Code} {G : GT} {q : Nat → Nat} {A : Nat → Prop} {out : Int32 × St} (bx : BX p RX7 wsX7_cheapest cX7_cheapest 3 (some .int) s m args meth c) (hA : ∀ q : Nat, s.heap.size ≤ q → A q) (hK : CK G s) {k9 : St → Int32 → Int32 → Option (Int32 × St)} (hk9 : ∀ (C : St) (x1 : Int32) (x2 : Int32), k9 C x1 x2 = some out → ∀ (H : Heap) (locs : List Loc) (hP : va_P G.1 vwCl (MW G q C) H) (hD : va_D A (MW G q C)) (hS : va_S A s.heap H locs), ∀ (ls : Array Slot), lv_has ls 3 [(0, .ref (q 0)), (1, .int x1), (2, .int x2)] → W p l e rmX7_cheapest s m args below meth c H locs 0 0 (MQi G (MW G q) A s args below out) (F0 m 9 ls [])) (C : St) (x2 : Int32) (h : pX7_cheapest_40 k9 C x2 = some out) {H : Heap} {locs : List Loc} (hP : va_P G.1 vwCl (MW G q C) H) (hD : va_D A (MW G q C)) (hS : va_S A s.heap H locs) (ls : Array Slot) (hl : lv_has ls 3 [(0, .ref (q 0)), (2, .int x2)]) : W p l e rmX7_cheapest s m args below meth c H locs 0 0 (MQi G (MW G q) A s args below out) (F0 m 40 ls []) := by
  obtain ⟨hx, hb, hr, hts, hown, hml, hlocks⟩ := id bx
  unfold pX7_cheapest_40 at h
  refine lv_iload_n hx hb dX7_cheapest_40 rfl (lv_at hl 1 rfl) ?_
  refine lv_goto (tgt := 45) hx hb dX7_cheapest_41 (by decide) ?_
  exact wX7_cheapest_45 bx hA hK hk9 C x2 x2 h hP hD hS _ (lv_sub hl [0, 1] rfl)

set_option maxHeartbeats 4000000 in
set_option maxRecDepth 100000 in
theorem wX7_cheapest_9_b {p : Program} {l : Launch} {e : Env} {s : State} {m : MethodId} {args : Array Value} {below : List Frame} {meth : Method} {c : Code} {G : GT} {q : Nat → Nat} {A : Nat → Prop} {out : Int32 × St} (bx : BX p RX7 wsX7_cheapest cX7_cheapest 3 (some .int) s m args meth c) (hA : ∀ q : Nat, s.heap.size ≤ q → A q) (hK : CK G s) {k9 : St → Int32 → Int32 → Option (Int32 × St)} (hk9 : ∀ (C : St) (x1 : Int32) (x2 : Int32), k9 C x1 x2 = some out → ∀ (H : Heap) (locs : List Loc) (hP : va_P G.1 vwCl (MW G q C) H) (hD : va_D A (MW G q C)) (hS : va_S A s.heap H locs), ∀ (ls : Array Slot), lv_has ls 3 [(0, .ref (q 0)), (1, .int x1), (2, .int x2)] → W p l e rmX7_cheapest s m args below meth c H locs 0 0 (MQi G (MW G q) A s args below out) (F0 m 9 ls [])) (C : St) (x1 : Int32) (x2 : Int32) (h : pX7_cheapest_9_b k9 C x1 x2 = some out) {H : Heap} {locs : List Loc} (hP : va_P G.1 vwCl (MW G q C) H) (hD : va_D A (MW G q C)) (hS : va_S A s.heap H locs) (ls : Array Slot) (hl : lv_has ls 3 [(0, .ref (q 0)), (1, .int x1), (2, .int x2)]) : W p l e rmX7_cheapest s m args below meth c H locs 0 0 (MQi G (MW G q) A s args below out) (F0 m 9 ls []) := by
  obtain ⟨hx, hb, hr, hts, hown, hml, hlocks⟩ := id bx
  unfold pX7_cheapest_9_b at h
  refine lv_iload_n hx hb dX7_cheapest_9 rfl (lv_at hl 2 rfl) ?_
  refine lv_iconst (v := 1) hx hb dX7_cheapest_10 (by decide) ?_
  refine lv_aload_n hx hb dX7_cheapest_11 rfl (lv_at hl 0 rfl) ?_
  refine va_get (D := G.1) (ci := 8) (v := .int (C.1 0)) (C := RX7) (T := TX7) (N := 24) hx hb hts in_wsX7_cheapest_X7 hown hK.1 hP 0 rfl rfl 16 (by decide) (w_mem hts 2 rfl) (fun _ h9 => h9) rfl dX7_cheapest_12 ?_
  refine lv_ishl hx hb dX7_cheapest_15 ?_
  refine lv_icmp_ge (tgt := 52) hx hb dX7_cheapest_16 (by decide) (fun c_16 => ?_) (fun c_16 => ?_)
  · have h := br_T h c_16
    refine lv_iload_n hx hb dX7_cheapest_52 rfl (lv_at hl 1 rfl) ?_
    exact MQi.end hx hb hr hlocks hP hS dX7_cheapest_53 rfl h
  · have h := br_F h c_16
    refine lv_aload_n hx hb dX7_cheapest_19 rfl (lv_at hl 0 rfl) ?_
    refine lv_iload_n hx hb dX7_cheapest_20 rfl (lv_at hl 2 rfl) ?_
    obtain ⟨r_2, hr_2, h⟩ := bd_ex h
    refine ro_i (va_runV (As := [.int x2]) (rest := []) ⟨hx, hb, hml, hown, hts⟩ (kX7_completes l G q C x2 r_2 hr_2) (cwV 1 hts gX7_cheapest_X7_completes rfl rfl rfl (by decide +kernel) ⟨Nat.le_of_ble_eq_true rfl, Nat.le_of_ble_eq_true rfl⟩) (roV hP hK 8 0 rfl rfl) rfl rfl hl.1 rfl (lv_room (Nat.le_of_ble_eq_true rfl)) dX7_cheapest_21 ⟨Nat.zero_le _, Nat.zero_le _⟩) ?_
    refine lv_if_eq (tgt := 44) hx hb dX7_cheapest_24 (by decide) (fun c_24 => ?_) (fun c_24 => ?_)
    · have h := br_T h c_24
      exact wX7_cheapest_44 bx hA hK hk9 C x1 x2 h hP hD hS _ (lv_sub hl [0, 1, 2] rfl)
    · have h := br_F h c_24
      refine lv_iload_n hx hb dX7_cheapest_27 rfl (lv_at hl 1 rfl) ?_
      refine lv_if_lt (tgt := 40) hx hb dX7_cheapest_28 (by decide) (fun c_28 => ?_) (fun c_28 => ?_)
      · have h := br_T h c_28
        exact wX7_cheapest_40 bx hA hK hk9 C x2 h hP hD hS _ (lv_sub hl [0, 2] rfl)
      · have h := br_F h c_28
        refine lv_aload_n hx hb dX7_cheapest_31 rfl (lv_at hl 0 rfl) ?_
        refine lv_iload_n hx hb dX7_cheapest_32 rfl (lv_at hl 2 rfl) ?_
        refine lv_iload_n hx hb dX7_cheapest_33 rfl (lv_at hl 1 rfl) ?_
        obtain ⟨r_4, hr_4, h⟩ := bd_ex h
        refine ro_i (va_runV (As := [.int x2, .int x1]) (rest := []) ⟨hx, hb, hml, hown, hts⟩ (kX7_isCheaper l G q C x2 x1 r_4 hr_4) (cwV 2 hts gX7_cheapest_X7_isCheaper rfl rfl rfl (by decide +kernel) ⟨Nat.le_of_ble_eq_true rfl, Nat.le_of_ble_eq_true rfl⟩) (roV hP hK 8 0 rfl rfl) rfl rfl hl.1 rfl (lv_room (Nat.le_of_ble_eq_true rfl)) dX7_cheapest_34 ⟨Nat.zero_le _, Nat.zero_le _⟩) ?_
        refine lv_if_eq (tgt := 44) hx hb dX7_cheapest_37 (by decide) (fun c_37 => ?_) (fun c_37 => ?_)
        · have h := br_T h c_37
          exact wX7_cheapest_44 bx hA hK hk9 C x1 x2 h hP hD hS _ (lv_sub hl [0, 1, 2] rfl)
        · have h := br_F h c_37
          exact wX7_cheapest_40 bx hA hK hk9 C x2 h hP hD hS _ (lv_sub hl [0, 2] rfl)

theorem wX7_cheapest_9 {p : Program} {l : Launch} {e : Env} {s : State} {m : MethodId} {args : Array Value} {below : List Frame} {meth : Method} {c : Code} {G : GT} {q : Nat → Nat} {A : Nat → Prop} {out : Int32 × St} (bx : BX p RX7 wsX7_cheapest cX7_cheapest 3 (some .int) s m args meth c) (hA : ∀ q : Nat, s.heap.size ≤ q → A q) (hK : CK G s) :
    ∀ (n : Nat) (C : St) (x1 : Int32) (x2 : Int32), pX7_cheapest_9 n C x1 x2 = some out → ∀ (H : Heap) (locs : List Loc) (hP : va_P G.1 vwCl (MW G q C) H) (hD : va_D A (MW G q C)) (hS : va_S A s.heap H locs), ∀ (ls : Array Slot), lv_has ls 3 [(0, .ref (q 0)), (1, .int x1), (2, .int x2)] → W p l e rmX7_cheapest s m args below meth c H locs 0 0 (MQi G (MW G q) A s args below out) (F0 m 9 ls []) := by
  intro n
  induction n with
  | zero => intro _ _ _ h; cases h
  | succ n ih => exact fun a0 a1 a2 h _ _ hP hD hS ls hl => wX7_cheapest_9_b bx hA hK ih a0 a1 a2 h hP hD hS ls hl

set_option maxHeartbeats 4000000 in
set_option maxRecDepth 100000 in
theorem kX7_cheapest (l : Launch) (G : GT) (q : Nat → Nat) (C : St) (sz : Nat) (r : Int32 × St) (h : pX7_cheapest C = some r) : Met l yX7_cheapest wsX7_cheapest rmX7_cheapest (va_Pc [.ref (q 0)] (wrP G (MW G q C) sz)) (va_Qi (fun v u => (v, u) = r) (fun u t => va_P G.1 vwCl (MW G q u) t.heap) (va_A (MW G q C) sz)) 0 0 (va_A (MW G q C) sz) := by
  refine Met.ofW (cc := cX7_cheapest) (maxL := 3) (ret := (some .int)) (by decide) rfl ?_
  intro p e s m args below meth c s₁ B hml hv
  obtain ⟨rfl, hsz, hP, hK, hD0⟩ := hv
  have bx := bx_of B hml
  subst hsz
  have hD := hD0.self (sz := s.heap.size)
  generalize hAe : va_A (MW G q C) s.heap.size = A at hD ⊢
  have hA : ∀ q : Nat, s.heap.size ≤ q → A q := fun q h => by rw [← hAe]; exact Or.inr h
  have hS : va_S A s.heap s.heap [] := va_S.rf
  obtain ⟨hx, hb, hr, hts, hown, hml, hlocks⟩ := id bx
  have hl := lv_entry ([.ref (q 0)]) (n := 3) (Nat.le_of_ble_eq_true rfl)
  rw [lg_entry_eq]
  generalize (lg_sl ([.ref (q 0)]) ++ List.replicate (3 - (lg_sl ([.ref (q 0)])).length) Slot.unset).toArray = ls at hl ⊢
  have hl : lv_has ls 3 [(0, .ref (q 0))] := hl
  show W p l e rmX7_cheapest s m _ below meth c s.heap [] 0 0 (MQi G (MW G q) A s _ below r) (F0 m 0 ls [])
  unfold pX7_cheapest at h
  refine lv_aload_n hx hb dX7_cheapest_0 rfl (lv_at hl 0 rfl) ?_
  refine lv_iconst (v := 0) hx hb dX7_cheapest_1 (by decide) ?_
  refine va_put (D := G.1) (ci := 8) (v := .int 0) (ty := .int) (C := RX7) (T := TX7) (N := 24) hx hb hts in_wsX7_cheapest_X7 tyX7 tyX7_ok nmX7 hown hK.1 hP hD hS 0 rfl rfl 23 (by decide) (w_mem hts 1 rfl) (fun _ h9 => h9) rfl (by decide +kernel) rfl rfl (Nat.le_of_ble_eq_true rfl) dX7_cheapest_2 (fun H locs hP hD hS => ?_)
  have hP : va_P G.1 vwCl (MW G q (sS C 7 0)) H := hP
  have hD : va_D A (MW G q (sS C 7 0)) := hD
  obtain ⟨C_1, eC_1, h⟩ := ltv_ex h
  rw [← eC_1] at hP hD
  refine lv_iconst (v := (-1)) hx hb dX7_cheapest_5 (by decide) ?_
  refine lv_istore_n (lv' := [(1, .int (-1)), (0, .ref (q 0))]) hx hb dX7_cheapest_6 rfl hl (by decide) rfl (fun ls hl => ?_)
  refine lv_iconst (v := 1) hx hb dX7_cheapest_7 (by decide) ?_
  refine lv_istore_n (lv' := [(2, .int 1), (1, .int (-1)), (0, .ref (q 0))]) hx hb dX7_cheapest_8 rfl hl (by decide) rfl (fun ls hl => ?_)
  exact wX7_cheapest_9 bx hA hK FU C_1 (-1) 1 h _ _ hP hD hS _ (lv_sub hl [2, 1, 0] rfl)

def rmX7_cheapestByAll : Room := { frames := 5, cells := 0, slots := 0, locals := 111 }

set_option maxHeartbeats 4000000 in
set_option maxRecDepth 100000 in
theorem kX7_cheapestByAll (l : Launch) (G : GT) (q : Nat → Nat) (C : St) (sz : Nat) (r : Int32 × St) (h : pX7_cheapestByAll C = some r) : Met l yX7_cheapestByAll wsX7_cheapestByAll rmX7_cheapestByAll (va_Pc [.ref (q 0)] (wrP G (MW G q C) sz)) (va_Qi (fun v u => (v, u) = r) (fun u t => va_P G.1 vwCl (MW G q u) t.heap) (va_A (MW G q C) sz)) 0 0 (va_A (MW G q C) sz) := by
  refine Met.ofW (cc := cX7_cheapestByAll) (maxL := 1) (ret := (some .int)) (by decide) rfl ?_
  intro p e s m args below meth c s₁ B hml hv
  obtain ⟨rfl, hsz, hP, hK, hD0⟩ := hv
  have bx := bx_of B hml
  subst hsz
  have hD := hD0.self (sz := s.heap.size)
  generalize hAe : va_A (MW G q C) s.heap.size = A at hD ⊢
  have hA : ∀ q : Nat, s.heap.size ≤ q → A q := fun q h => by rw [← hAe]; exact Or.inr h
  have hS : va_S A s.heap s.heap [] := va_S.rf
  obtain ⟨hx, hb, hr, hts, hown, hml, hlocks⟩ := id bx
  have hl := lv_entry ([.ref (q 0)]) (n := 1) (Nat.le_of_ble_eq_true rfl)
  rw [lg_entry_eq]
  generalize (lg_sl ([.ref (q 0)]) ++ List.replicate (1 - (lg_sl ([.ref (q 0)])).length) Slot.unset).toArray = ls at hl ⊢
  have hl : lv_has ls 1 [(0, .ref (q 0))] := hl
  show W p l e rmX7_cheapestByAll s m _ below meth c s.heap [] 0 0 (MQi G (MW G q) A s _ below r) (F0 m 0 ls [])
  unfold pX7_cheapestByAll at h
  refine lv_aload_n hx hb dX7_cheapestByAll_0 rfl (lv_at hl 0 rfl) ?_
  obtain ⟨u_1, hu_1, h⟩ := bd_ex h
  refine wr_i (Wd := MW G q) (va_runV (As := []) (rest := []) ⟨hx, hb, hml, hown, hts⟩ (kX7_cheapest l G q C _ u_1 hu_1) (cwV 0 hts gX7_cheapestByAll_X7_cheapest rfl rfl rfl (by decide +kernel) ⟨Nat.le_of_ble_eq_true rfl, Nat.le_of_ble_eq_true rfl⟩) (wrV hP hD hK 8 0 rfl rfl) rfl rfl hl.1 rfl (lv_room (Nat.le_of_ble_eq_true rfl)) dX7_cheapestByAll_1 ⟨Nat.zero_le _, Nat.zero_le _⟩) hD hS hA (fun _ => rfl) (fun H locs hP hD hS => ?_)
  exact MQi.end hx hb hr hlocks hP hS dX7_cheapestByAll_4 rfl h

def rmX7_complete : Room := { frames := 5, cells := 0, slots := 0, locals := 111 }

theorem in_wsX7_complete_X7 : ∀ w ∈ u_ws RX7 TX7 24, w ∈ wsX7_complete := by decide +kernel

set_option maxHeartbeats 4000000 in
set_option maxRecDepth 100000 in
theorem wX7_complete_59 {p : Program} {l : Launch} {e : Env} {s : State} {m : MethodId} {args : Array Value} {below : List Frame} {meth : Method} {c : Code} {G : GT} {q : Nat → Nat} {A : Nat → Prop} {out : Int32 × St} (bx : BX p RX7 wsX7_complete cX7_complete 3 (some .int) s m args meth c) (hA : ∀ q : Nat, s.heap.size ≤ q → A q) (hK : CK G s) {k7 : St → Int32 → Int32 → Option (Int32 × St)} (hk7 : ∀ (C : St) (x1 : Int32) (x2 : Int32), k7 C x1 x2 = some out → ∀ (H : Heap) (locs : List Loc) (hP : va_P G.1 vwCl (MW G q C) H) (hD : va_D A (MW G q C)) (hS : va_S A s.heap H locs), ∀ (ls : Array Slot), lv_has ls 3 [(0, .ref (q 0)), (1, .int x1), (2, .int x2)] → W p l e rmX7_complete s m args below meth c H locs 0 0 (MQi G (MW G q) A s args below out) (F0 m 7 ls [])) (C : St) (x1 : Int32) (x2 : Int32) (t1 : Int32) (t2 : Int32) (h : pX7_complete_59 k7 C x1 x2 t1 t2 = some out) {H : Heap} {locs : List Loc} (hP : va_P G.1 vwCl (MW G q C) H) (hD : va_D A (MW G q C)) (hS : va_S A s.heap H locs) (ls : Array Slot) (hl : lv_has ls 3 [(0, .ref (q 0)), (1, .int x1), (2, .int x2)]) : W p l e rmX7_complete s m args below meth c H locs 0 0 (MQi G (MW G q) A s args below out) (F0 m 59 ls [.int t2, .int t1, .ref (q 0)]) := by
  obtain ⟨hx, hb, hr, hts, hown, hml, hlocks⟩ := id bx
  unfold pX7_complete_59 at h
  refine lv_ior hx hb dX7_complete_59 ?_
  refine va_put (D := G.1) (ci := 8) (v := .int (t1 ||| t2)) (ty := .int) (C := RX7) (T := TX7) (N := 24) hx hb hts in_wsX7_complete_X7 tyX7 tyX7_ok nmX7 hown hK.1 hP hD hS 0 rfl rfl 20 (by decide) (w_mem hts 3 rfl) (fun _ h9 => h9) rfl (by decide +kernel) rfl rfl (Nat.le_of_ble_eq_true rfl) dX7_complete_60 (fun H locs hP hD hS => ?_)
  have hP : va_P G.1 vwCl (MW G q (sS C 4 (t1 ||| t2))) H := hP
  have hD : va_D A (MW G q (sS C 4 (t1 ||| t2))) := hD
  obtain ⟨C_7, eC_7, h⟩ := ltv_ex h
  rw [← eC_7] at hP hD
  obtain ⟨v_8, ev_8, h⟩ := ltv_ex h
  refine lv_iinc (v := v_8) (lv' := [(2, .int v_8), (0, .ref (q 0)), (1, .int x1)]) hx hb dX7_complete_63 hl (k := 2) rfl (by rw [ev_8]; rfl) (by decide) rfl (fun ls hl => ?_)
  refine lv_goto (tgt := 7) hx hb dX7_complete_66 (by decide) ?_
  exact hk7 C_7 x1 v_8 h _ _ hP hD hS _ (lv_sub hl [1, 2, 0] rfl)

set_option maxHeartbeats 4000000 in
set_option maxRecDepth 100000 in
theorem wX7_complete_35 {p : Program} {l : Launch} {e : Env} {s : State} {m : MethodId} {args : Array Value} {below : List Frame} {meth : Method} {c : Code} {G : GT} {q : Nat → Nat} {A : Nat → Prop} {out : Int32 × St} (bx : BX p RX7 wsX7_complete cX7_complete 3 (some .int) s m args meth c) (hA : ∀ q : Nat, s.heap.size ≤ q → A q) (hK : CK G s) {k7 : St → Int32 → Int32 → Option (Int32 × St)} (hk7 : ∀ (C : St) (x1 : Int32) (x2 : Int32), k7 C x1 x2 = some out → ∀ (H : Heap) (locs : List Loc) (hP : va_P G.1 vwCl (MW G q C) H) (hD : va_D A (MW G q C)) (hS : va_S A s.heap H locs), ∀ (ls : Array Slot), lv_has ls 3 [(0, .ref (q 0)), (1, .int x1), (2, .int x2)] → W p l e rmX7_complete s m args below meth c H locs 0 0 (MQi G (MW G q) A s args below out) (F0 m 7 ls [])) (C : St) (x1 : Int32) (x2 : Int32) (t1 : Int32) (t2 : Int32) (h : pX7_complete_35 k7 C x1 x2 t1 t2 = some out) {H : Heap} {locs : List Loc} (hP : va_P G.1 vwCl (MW G q C) H) (hD : va_D A (MW G q C)) (hS : va_S A s.heap H locs) (ls : Array Slot) (hl : lv_has ls 3 [(0, .ref (q 0)), (1, .int x1), (2, .int x2)]) : W p l e rmX7_complete s m args below meth c H locs 0 0 (MQi G (MW G q) A s args below out) (F0 m 35 ls [.int t2, .int t1, .ref (q 0)]) := by
  obtain ⟨hx, hb, hr, hts, hown, hml, hlocks⟩ := id bx
  unfold pX7_complete_35 at h
  refine lv_ior hx hb dX7_complete_35 ?_
  refine va_put (D := G.1) (ci := 8) (v := .int (t1 ||| t2)) (ty := .int) (C := RX7) (T := TX7) (N := 24) hx hb hts in_wsX7_complete_X7 tyX7 tyX7_ok nmX7 hown hK.1 hP hD hS 0 rfl rfl 19 (by decide) (w_mem hts 2 rfl) (fun _ h9 => h9) rfl (by decide +kernel) rfl rfl (Nat.le_of_ble_eq_true rfl) dX7_complete_36 (fun H locs hP hD hS => ?_)
  have hP : va_P G.1 vwCl (MW G q (sS C 3 (t1 ||| t2))) H := hP
  have hD : va_D A (MW G q (sS C 3 (t1 ||| t2))) := hD
  obtain ⟨C_5, eC_5, h⟩ := ltv_ex h
  rw [← eC_5] at hP hD
  refine lv_aload_n hx hb dX7_complete_39 rfl (lv_at hl 0 rfl) ?_
  refine lv_dup hx hb dX7_complete_40 rfl ?_
  refine va_get (D := G.1) (ci := 8) (v := .int (C_5.1 4)) (C := RX7) (T := TX7) (N := 24) hx hb hts in_wsX7_complete_X7 hown hK.1 hP 0 rfl rfl 20 (by decide) (w_mem hts 3 rfl) (fun _ h9 => h9) rfl dX7_complete_41 ?_
  refine lv_iload_n hx hb dX7_complete_44 rfl (lv_at hl 1 rfl) ?_
  refine lv_iload_n hx hb dX7_complete_45 rfl (lv_at hl 2 rfl) ?_
  obtain ⟨r_6, hr_6, h⟩ := bd_ex h
  refine ro_i (va_runS (As := [.int x1, .int x2]) (rest := [.int (C_5.1 4), .ref (q 0)]) ⟨hx, hb, hml, hown, hts⟩ (kX7_has l G q C_5 x1 x2 r_6 hr_6) (va_cwS 2 hts gX7_complete_X7_has rfl rfl rfl (by decide +kernel) ⟨Nat.le_of_ble_eq_true rfl, Nat.le_of_ble_eq_true rfl⟩) (roS hP hK) rfl rfl hl.1 rfl (lv_room (Nat.le_of_ble_eq_true rfl)) dX7_complete_46 ⟨Nat.zero_le _, Nat.zero_le _⟩) ?_
  refine lv_if_eq (tgt := 56) hx hb dX7_complete_49 (by decide) (fun c_49 => ?_) (fun c_49 => ?_)
  · have h := br_T h c_49
    refine lv_iconst (v := 1) hx hb dX7_complete_56 (by decide) ?_
    refine lv_iload_n hx hb dX7_complete_57 rfl (lv_at hl 2 rfl) ?_
    refine lv_ishl hx hb dX7_complete_58 ?_
    exact wX7_complete_59 bx hA hK hk7 C_5 x1 x2 (C_5.1 4) ((1 : Int32) <<< (x2 &&& 31)) h hP hD hS _ (lv_sub hl [0, 1, 2] rfl)
  · have h := br_F h c_49
    refine lv_iconst (v := 0) hx hb dX7_complete_52 (by decide) ?_
    refine lv_goto (tgt := 59) hx hb dX7_complete_53 (by decide) ?_
    exact wX7_complete_59 bx hA hK hk7 C_5 x1 x2 (C_5.1 4) 0 h hP hD hS _ (lv_sub hl [0, 1, 2] rfl)

set_option maxHeartbeats 4000000 in
set_option maxRecDepth 100000 in
theorem wX7_complete_7_b {p : Program} {l : Launch} {e : Env} {s : State} {m : MethodId} {args : Array Value} {below : List Frame} {meth : Method} {c : Code} {G : GT} {q : Nat → Nat} {A : Nat → Prop} {out : Int32 × St} (bx : BX p RX7 wsX7_complete cX7_complete 3 (some .int) s m args meth c) (hA : ∀ q : Nat, s.heap.size ≤ q → A q) (hK : CK G s) {k7 : St → Int32 → Int32 → Option (Int32 × St)} (hk7 : ∀ (C : St) (x1 : Int32) (x2 : Int32), k7 C x1 x2 = some out → ∀ (H : Heap) (locs : List Loc) (hP : va_P G.1 vwCl (MW G q C) H) (hD : va_D A (MW G q C)) (hS : va_S A s.heap H locs), ∀ (ls : Array Slot), lv_has ls 3 [(0, .ref (q 0)), (1, .int x1), (2, .int x2)] → W p l e rmX7_complete s m args below meth c H locs 0 0 (MQi G (MW G q) A s args below out) (F0 m 7 ls [])) (C : St) (x1 : Int32) (x2 : Int32) (h : pX7_complete_7_b k7 C x1 x2 = some out) {H : Heap} {locs : List Loc} (hP : va_P G.1 vwCl (MW G q C) H) (hD : va_D A (MW G q C)) (hS : va_S A s.heap H locs) (ls : Array Slot) (hl : lv_has ls 3 [(0, .ref (q 0)), (1, .int x1), (2, .int x2)]) : W p l e rmX7_complete s m args below meth c H locs 0 0 (MQi G (MW G q) A s args below out) (F0 m 7 ls []) := by
  obtain ⟨hx, hb, hr, hts, hown, hml, hlocks⟩ := id bx
  unfold pX7_complete_7_b at h
  refine lv_iload_n hx hb dX7_complete_7 rfl (lv_at hl 2 rfl) ?_
  refine lv_aload_n hx hb dX7_complete_8 rfl (lv_at hl 0 rfl) ?_
  refine va_get (D := G.1) (ci := 8) (v := .int (C.1 0)) (C := RX7) (T := TX7) (N := 24) hx hb hts in_wsX7_complete_X7 hown hK.1 hP 0 rfl rfl 16 (by decide) (w_mem hts 1 rfl) (fun _ h9 => h9) rfl dX7_complete_9 ?_
  refine lv_icmp_ge (tgt := 69) hx hb dX7_complete_12 (by decide) (fun c_12 => ?_) (fun c_12 => ?_)
  · have h := br_T h c_12
    refine lv_aload_n hx hb dX7_complete_69 rfl (lv_at hl 0 rfl) ?_
    refine lv_iload_n hx hb dX7_complete_70 rfl (lv_at hl 1 rfl) ?_
    obtain ⟨r_3, hr_3, h⟩ := bd_ex h
    refine ro_i (va_runV (As := [.int x1]) (rest := []) ⟨hx, hb, hml, hown, hts⟩ (kX7_priced l G q C x1 r_3 hr_3) (cwV 1 hts gX7_complete_X7_priced rfl rfl rfl (by decide +kernel) ⟨Nat.le_of_ble_eq_true rfl, Nat.le_of_ble_eq_true rfl⟩) (roV hP hK 8 0 rfl rfl) rfl rfl hl.1 rfl (lv_room (Nat.le_of_ble_eq_true rfl)) dX7_complete_71 ⟨Nat.zero_le _, Nat.zero_le _⟩) ?_
    exact MQi.end hx hb hr hlocks hP hS dX7_complete_74 rfl h
  · have h := br_F h c_12
    refine lv_aload_n hx hb dX7_complete_15 rfl (lv_at hl 0 rfl) ?_
    refine lv_dup hx hb dX7_complete_16 rfl ?_
    refine va_get (D := G.1) (ci := 8) (v := .int (C.1 3)) (C := RX7) (T := TX7) (N := 24) hx hb hts in_wsX7_complete_X7 hown hK.1 hP 0 rfl rfl 19 (by decide) (w_mem hts 2 rfl) (fun _ h9 => h9) rfl dX7_complete_17 ?_
    refine lv_iload_n hx hb dX7_complete_20 rfl (lv_at hl 1 rfl) ?_
    refine lv_iload_n hx hb dX7_complete_21 rfl (lv_at hl 2 rfl) ?_
    obtain ⟨r_4, hr_4, h⟩ := bd_ex h
    refine ro_i (va_runS (As := [.int x1, .int x2]) (rest := [.int (C.1 3), .ref (q 0)]) ⟨hx, hb, hml, hown, hts⟩ (kX7_has l G q C x1 x2 r_4 hr_4) (va_cwS 2 hts gX7_complete_X7_has rfl rfl rfl (by decide +kernel) ⟨Nat.le_of_ble_eq_true rfl, Nat.le_of_ble_eq_true rfl⟩) (roS hP hK) rfl rfl hl.1 rfl (lv_room (Nat.le_of_ble_eq_true rfl)) dX7_complete_22 ⟨Nat.zero_le _, Nat.zero_le _⟩) ?_
    refine lv_if_eq (tgt := 34) hx hb dX7_complete_25 (by decide) (fun c_25 => ?_) (fun c_25 => ?_)
    · have h := br_T h c_25
      refine lv_iconst (v := 0) hx hb dX7_complete_34 (by decide) ?_
      exact wX7_complete_35 bx hA hK hk7 C x1 x2 (C.1 3) 0 h hP hD hS _ (lv_sub hl [0, 1, 2] rfl)
    · have h := br_F h c_25
      refine lv_iconst (v := 1) hx hb dX7_complete_28 (by decide) ?_
      refine lv_iload_n hx hb dX7_complete_29 rfl (lv_at hl 2 rfl) ?_
      refine lv_ishl hx hb dX7_complete_30 ?_
      refine lv_goto (tgt := 35) hx hb dX7_complete_31 (by decide) ?_
      exact wX7_complete_35 bx hA hK hk7 C x1 x2 (C.1 3) ((1 : Int32) <<< (x2 &&& 31)) h hP hD hS _ (lv_sub hl [0, 1, 2] rfl)

theorem wX7_complete_7 {p : Program} {l : Launch} {e : Env} {s : State} {m : MethodId} {args : Array Value} {below : List Frame} {meth : Method} {c : Code} {G : GT} {q : Nat → Nat} {A : Nat → Prop} {out : Int32 × St} (bx : BX p RX7 wsX7_complete cX7_complete 3 (some .int) s m args meth c) (hA : ∀ q : Nat, s.heap.size ≤ q → A q) (hK : CK G s) :
    ∀ (n : Nat) (C : St) (x1 : Int32) (x2 : Int32), pX7_complete_7 n C x1 x2 = some out → ∀ (H : Heap) (locs : List Loc) (hP : va_P G.1 vwCl (MW G q C) H) (hD : va_D A (MW G q C)) (hS : va_S A s.heap H locs), ∀ (ls : Array Slot), lv_has ls 3 [(0, .ref (q 0)), (1, .int x1), (2, .int x2)] → W p l e rmX7_complete s m args below meth c H locs 0 0 (MQi G (MW G q) A s args below out) (F0 m 7 ls []) := by
  intro n
  induction n with
  | zero => intro _ _ _ h; cases h
  | succ n ih => exact fun a0 a1 a2 h _ _ hP hD hS ls hl => wX7_complete_7_b bx hA hK ih a0 a1 a2 h hP hD hS ls hl

set_option maxHeartbeats 4000000 in
set_option maxRecDepth 100000 in
theorem kX7_complete (l : Launch) (G : GT) (q : Nat → Nat) (C : St) (sz : Nat) (r : Int32 × St) (h : pX7_complete C = some r) : Met l yX7_complete wsX7_complete rmX7_complete (va_Pc [.ref (q 0)] (wrP G (MW G q C) sz)) (va_Qi (fun v u => (v, u) = r) (fun u t => va_P G.1 vwCl (MW G q u) t.heap) (va_A (MW G q C) sz)) 0 0 (va_A (MW G q C) sz) := by
  refine Met.ofW (cc := cX7_complete) (maxL := 3) (ret := (some .int)) (by decide) rfl ?_
  intro p e s m args below meth c s₁ B hml hv
  obtain ⟨rfl, hsz, hP, hK, hD0⟩ := hv
  have bx := bx_of B hml
  subst hsz
  have hD := hD0.self (sz := s.heap.size)
  generalize hAe : va_A (MW G q C) s.heap.size = A at hD ⊢
  have hA : ∀ q : Nat, s.heap.size ≤ q → A q := fun q h => by rw [← hAe]; exact Or.inr h
  have hS : va_S A s.heap s.heap [] := va_S.rf
  obtain ⟨hx, hb, hr, hts, hown, hml, hlocks⟩ := id bx
  have hl := lv_entry ([.ref (q 0)]) (n := 3) (Nat.le_of_ble_eq_true rfl)
  rw [lg_entry_eq]
  generalize (lg_sl ([.ref (q 0)]) ++ List.replicate (3 - (lg_sl ([.ref (q 0)])).length) Slot.unset).toArray = ls at hl ⊢
  have hl : lv_has ls 3 [(0, .ref (q 0))] := hl
  show W p l e rmX7_complete s m _ below meth c s.heap [] 0 0 (MQi G (MW G q) A s _ below r) (F0 m 0 ls [])
  unfold pX7_complete at h
  refine lv_aload_n hx hb dX7_complete_0 rfl (lv_at hl 0 rfl) ?_
  obtain ⟨u_1, hu_1, h⟩ := bd_ex h
  refine wr_i (Wd := MW G q) (va_runV (As := []) (rest := []) ⟨hx, hb, hml, hown, hts⟩ (kX7_cheapest l G q C _ u_1 hu_1) (cwV 0 hts gX7_complete_X7_cheapest rfl rfl rfl (by decide +kernel) ⟨Nat.le_of_ble_eq_true rfl, Nat.le_of_ble_eq_true rfl⟩) (wrV hP hD hK 8 0 rfl rfl) rfl rfl hl.1 rfl (lv_room (Nat.le_of_ble_eq_true rfl)) dX7_complete_1 ⟨Nat.zero_le _, Nat.zero_le _⟩) hD hS hA (fun _ => rfl) (fun H locs hP hD hS => ?_)
  refine lv_topi (fun v_2 ev_2 => ?_)
  have h := ltv_at h v_2 ev_2
  refine lv_istore_n (lv' := [(1, .int v_2), (0, .ref (q 0))]) hx hb dX7_complete_4 rfl hl (by decide) rfl (fun ls hl => ?_)
  refine lv_iconst (v := 1) hx hb dX7_complete_5 (by decide) ?_
  refine lv_istore_n (lv' := [(2, .int 1), (1, .int v_2), (0, .ref (q 0))]) hx hb dX7_complete_6 rfl hl (by decide) rfl (fun ls hl => ?_)
  exact wX7_complete_7 bx hA hK FU u_1.2 v_2 1 h _ _ hP hD hS _ (lv_sub hl [2, 1, 0] rfl)

def rmX7_isNoWish : Room := { frames := 4, cells := 0, slots := 0, locals := 94 }

set_option maxHeartbeats 4000000 in
set_option maxRecDepth 100000 in
theorem wX7_isNoWish_15 {p : Program} {l : Launch} {e : Env} {s : State} {m : MethodId} {args : Array Value} {below : List Frame} {meth : Method} {c : Code} {G : GT} {q : Nat → Nat} {A : Nat → Prop} {out : Int32 × St} (bx : BX p RX7 wsX7_isNoWish cX7_isNoWish 4 (some .boolean) s m args meth c) (hA : ∀ q : Nat, s.heap.size ≤ q → A q) (hK : CK G s) (C : St) (x3 : Int32) (t1 : Int32) (h : pX7_isNoWish_15 C x3 t1 = some out) {H : Heap} {locs : List Loc} (hP : va_P G.1 vwCl (MW G q C) H) (hD : va_D A (MW G q C)) (hS : va_S A s.heap H locs) (ls : Array Slot) (hl : lv_has ls 4 [(3, .int x3)]) : W p l e rmX7_isNoWish s m args below meth c H locs 0 0 (MQi G (MW G q) A s args below out) (F0 m 15 ls [.int t1, .ref (q 0)]) := by
  obtain ⟨hx, hb, hr, hts, hown, hml, hlocks⟩ := id bx
  unfold pX7_isNoWish_15 at h
  refine lv_iload_n hx hb dX7_isNoWish_15 rfl (lv_at hl 0 rfl) ?_
  obtain ⟨u_2, hu_2, h⟩ := bd_ex h
  refine wr_i (Wd := MW G q) (va_runV (As := [.int t1, .int x3]) (rest := []) ⟨hx, hb, hml, hown, hts⟩ (kX7_isThrown l G q C _ t1 x3 u_2 hu_2) (cwV 2 hts gX7_isNoWish_X7_isThrown rfl rfl rfl (by decide +kernel) ⟨Nat.le_of_ble_eq_true rfl, Nat.le_of_ble_eq_true rfl⟩) (wrV hP hD hK 8 0 rfl rfl) rfl rfl hl.1 rfl (lv_room (Nat.le_of_ble_eq_true rfl)) dX7_isNoWish_16 ⟨Nat.zero_le _, Nat.zero_le _⟩) hD hS hA (fun _ => rfl) (fun H locs hP hD hS => ?_)
  obtain ⟨g19, h⟩ := gd_ex h
  exact MQi.end hx hb hr hlocks hP hS dX7_isNoWish_19 (okZ_n g19) h

set_option maxHeartbeats 4000000 in
set_option maxRecDepth 100000 in
theorem kX7_isNoWish (l : Launch) (G : GT) (q : Nat → Nat) (C : St) (sz : Nat) (x1 : Int32) (x2 : Int32) (x3 : Int32) (r : Int32 × St) (h : pX7_isNoWish C x1 x2 x3 = some r) : Met l yX7_isNoWish wsX7_isNoWish rmX7_isNoWish (va_Pc [.ref (q 0), .int x1, .int x2, .int x3] (wrP G (MW G q C) sz)) (va_Qi (fun v u => (v, u) = r) (fun u t => va_P G.1 vwCl (MW G q u) t.heap) (va_A (MW G q C) sz)) 0 0 (va_A (MW G q C) sz) := by
  refine Met.ofW (cc := cX7_isNoWish) (maxL := 4) (ret := (some .boolean)) (by decide) rfl ?_
  intro p e s m args below meth c s₁ B hml hv
  obtain ⟨rfl, hsz, hP, hK, hD0⟩ := hv
  have bx := bx_of B hml
  subst hsz
  have hD := hD0.self (sz := s.heap.size)
  generalize hAe : va_A (MW G q C) s.heap.size = A at hD ⊢
  have hA : ∀ q : Nat, s.heap.size ≤ q → A q := fun q h => by rw [← hAe]; exact Or.inr h
  have hS : va_S A s.heap s.heap [] := va_S.rf
  obtain ⟨hx, hb, hr, hts, hown, hml, hlocks⟩ := id bx
  have hl := lv_entry ([.ref (q 0), .int x1, .int x2, .int x3]) (n := 4) (Nat.le_of_ble_eq_true rfl)
  rw [lg_entry_eq]
  generalize (lg_sl ([.ref (q 0), .int x1, .int x2, .int x3]) ++ List.replicate (4 - (lg_sl ([.ref (q 0), .int x1, .int x2, .int x3])).length) Slot.unset).toArray = ls at hl ⊢
  have hl : lv_has ls 4 [(0, .ref (q 0)), (1, .int x1), (2, .int x2), (3, .int x3)] := hl
  show W p l e rmX7_isNoWish s m _ below meth c s.heap [] 0 0 (MQi G (MW G q) A s _ below r) (F0 m 0 ls [])
  unfold pX7_isNoWish at h
  refine lv_aload_n hx hb dX7_isNoWish_0 rfl (lv_at hl 0 rfl) ?_
  refine lv_aload_n hx hb dX7_isNoWish_1 rfl (lv_at hl 0 rfl) ?_
  refine lv_iload_n hx hb dX7_isNoWish_2 rfl (lv_at hl 1 rfl) ?_
  refine lv_iload_n hx hb dX7_isNoWish_3 rfl (lv_at hl 2 rfl) ?_
  obtain ⟨r_1, hr_1, h⟩ := bd_ex h
  refine ro_i (va_runV (As := [.int x1, .int x2]) (rest := [.ref (q 0)]) ⟨hx, hb, hml, hown, hts⟩ (kX7_wrong l G q C x1 x2 r_1 hr_1) (cwV 2 hts gX7_isNoWish_X7_wrong rfl rfl rfl (by decide +kernel) ⟨Nat.le_of_ble_eq_true rfl, Nat.le_of_ble_eq_true rfl⟩) (roV hP hK 8 0 rfl rfl) rfl rfl hl.1 rfl (lv_room (Nat.le_of_ble_eq_true rfl)) dX7_isNoWish_4 ⟨Nat.zero_le _, Nat.zero_le _⟩) ?_
  refine lv_if_ge (tgt := 14) hx hb dX7_isNoWish_7 (by decide) (fun c_7 => ?_) (fun c_7 => ?_)
  · have h := br_T h c_7
    refine lv_iconst (v := 0) hx hb dX7_isNoWish_14 (by decide) ?_
    exact wX7_isNoWish_15 bx hA hK C x3 0 h hP hD hS _ (lv_sub hl [3] rfl)
  · have h := br_F h c_7
    refine lv_iconst (v := 1) hx hb dX7_isNoWish_10 (by decide) ?_
    refine lv_goto (tgt := 15) hx hb dX7_isNoWish_11 (by decide) ?_
    exact wX7_isNoWish_15 bx hA hK C x3 1 h hP hD hS _ (lv_sub hl [3] rfl)

def rmX7_fewest : Room := { frames := 5, cells := 0, slots := 0, locals := 117 }

set_option maxHeartbeats 4000000 in
set_option maxRecDepth 100000 in
theorem kX7_fewest (l : Launch) (G : GT) (q : Nat → Nat) (C : St) (sz : Nat) (x1 : Int32) (x2 : Int32) (r : Int32 × St) (h : pX7_fewest C x1 x2 = some r) : Met l yX7_fewest wsX7_fewest rmX7_fewest (va_Pc [.ref (q 0), .int x1, .int x2] (wrP G (MW G q C) sz)) (va_Qi (fun v u => (v, u) = r) (fun u t => va_P G.1 vwCl (MW G q u) t.heap) (va_A (MW G q C) sz)) 0 0 (va_A (MW G q C) sz) := by
  refine Met.ofW (cc := cX7_fewest) (maxL := 3) (ret := (some .int)) (by decide) rfl ?_
  intro p e s m args below meth c s₁ B hml hv
  obtain ⟨rfl, hsz, hP, hK, hD0⟩ := hv
  have bx := bx_of B hml
  subst hsz
  have hD := hD0.self (sz := s.heap.size)
  generalize hAe : va_A (MW G q C) s.heap.size = A at hD ⊢
  have hA : ∀ q : Nat, s.heap.size ≤ q → A q := fun q h => by rw [← hAe]; exact Or.inr h
  have hS : va_S A s.heap s.heap [] := va_S.rf
  obtain ⟨hx, hb, hr, hts, hown, hml, hlocks⟩ := id bx
  have hl := lv_entry ([.ref (q 0), .int x1, .int x2]) (n := 3) (Nat.le_of_ble_eq_true rfl)
  rw [lg_entry_eq]
  generalize (lg_sl ([.ref (q 0), .int x1, .int x2]) ++ List.replicate (3 - (lg_sl ([.ref (q 0), .int x1, .int x2])).length) Slot.unset).toArray = ls at hl ⊢
  have hl : lv_has ls 3 [(0, .ref (q 0)), (1, .int x1), (2, .int x2)] := hl
  show W p l e rmX7_fewest s m _ below meth c s.heap [] 0 0 (MQi G (MW G q) A s _ below r) (F0 m 0 ls [])
  unfold pX7_fewest at h
  refine lv_aload_n hx hb dX7_fewest_0 rfl (lv_at hl 0 rfl) ?_
  refine lv_aload_n hx hb dX7_fewest_1 rfl (lv_at hl 0 rfl) ?_
  refine lv_iload_n hx hb dX7_fewest_2 rfl (lv_at hl 1 rfl) ?_
  obtain ⟨r_1, hr_1, h⟩ := bd_ex h
  refine ro_i (va_runV (As := [.int x1]) (rest := [.ref (q 0)]) ⟨hx, hb, hml, hown, hts⟩ (kX7_isNone l G q C x1 r_1 hr_1) (cwV 1 hts gX7_fewest_X7_isNone rfl rfl rfl (by decide +kernel) ⟨Nat.le_of_ble_eq_true rfl, Nat.le_of_ble_eq_true rfl⟩) (roV hP hK 8 0 rfl rfl) rfl rfl hl.1 rfl (lv_room (Nat.le_of_ble_eq_true rfl)) dX7_fewest_3 ⟨Nat.zero_le _, Nat.zero_le _⟩) ?_
  refine lv_iconst (v := 1) hx hb dX7_fewest_6 (by decide) ?_
  obtain ⟨u_2, hu_2, h⟩ := bd_ex h
  refine wr_i (Wd := MW G q) (va_runV (As := [.int r_1, .int 1]) (rest := []) ⟨hx, hb, hml, hown, hts⟩ (kX7_isThrown l G q C _ r_1 1 u_2 hu_2) (cwV 2 hts gX7_fewest_X7_isThrown rfl rfl rfl (by decide +kernel) ⟨Nat.le_of_ble_eq_true rfl, Nat.le_of_ble_eq_true rfl⟩) (wrV hP hD hK 8 0 rfl rfl) rfl rfl hl.1 rfl (lv_room (Nat.le_of_ble_eq_true rfl)) dX7_fewest_7 ⟨Nat.zero_le _, Nat.zero_le _⟩) hD hS hA (fun _ => rfl) (fun H locs hP hD hS => ?_)
  refine lv_if_ne (tgt := 23) hx hb dX7_fewest_10 (by decide) (fun c_10 => ?_) (fun c_10 => ?_)
  · have h := br_F h c_10
    refine lv_iconst (v := 0) hx hb dX7_fewest_23 (by decide) ?_
    refine lv_goto (tgt := 36) hx hb dX7_fewest_24 (by decide) ?_
    exact MQi.end hx hb hr hlocks hP hS dX7_fewest_36 rfl h
  · have h := br_T h c_10
    refine lv_aload_n hx hb dX7_fewest_13 rfl (lv_at hl 0 rfl) ?_
    refine lv_iload_n hx hb dX7_fewest_14 rfl (lv_at hl 1 rfl) ?_
    refine lv_iload_n hx hb dX7_fewest_15 rfl (lv_at hl 2 rfl) ?_
    refine lv_iconst (v := 2) hx hb dX7_fewest_16 (by decide) ?_
    obtain ⟨u_3, hu_3, h⟩ := bd_ex h
    refine wr_i (Wd := MW G q) (va_runV (As := [.int x1, .int x2, .int 2]) (rest := []) ⟨hx, hb, hml, hown, hts⟩ (kX7_isNoWish l G q u_2.2 _ x1 x2 2 u_3 hu_3) (cwV 3 hts gX7_fewest_X7_isNoWish rfl rfl rfl (by decide +kernel) ⟨Nat.le_of_ble_eq_true rfl, Nat.le_of_ble_eq_true rfl⟩) (wrV hP hD hK 8 0 rfl rfl) rfl rfl hl.1 rfl (lv_room (Nat.le_of_ble_eq_true rfl)) dX7_fewest_17 ⟨Nat.zero_le _, Nat.zero_le _⟩) hD hS hA (fun _ => rfl) (fun H locs hP hD hS => ?_)
    refine lv_if_eq (tgt := 27) hx hb dX7_fewest_20 (by decide) (fun c_20 => ?_) (fun c_20 => ?_)
    · have h := br_T h c_20
      refine lv_aload_n hx hb dX7_fewest_27 rfl (lv_at hl 0 rfl) ?_
      refine lv_iload_n hx hb dX7_fewest_28 rfl (lv_at hl 1 rfl) ?_
      refine lv_iload_n hx hb dX7_fewest_29 rfl (lv_at hl 2 rfl) ?_
      obtain ⟨r_4, hr_4, h⟩ := bd_ex h
      refine ro_i (va_runV (As := [.int x1, .int x2]) (rest := []) ⟨hx, hb, hml, hown, hts⟩ (kX7_wrong l G q u_3.2 x1 x2 r_4 hr_4) (cwV 2 hts gX7_fewest_X7_wrong rfl rfl rfl (by decide +kernel) ⟨Nat.le_of_ble_eq_true rfl, Nat.le_of_ble_eq_true rfl⟩) (roV hP hK 8 0 rfl rfl) rfl rfl hl.1 rfl (lv_room (Nat.le_of_ble_eq_true rfl)) dX7_fewest_30 ⟨Nat.zero_le _, Nat.zero_le _⟩) ?_
      obtain ⟨r_5, hr_5, h⟩ := bd_ex h
      refine ro_i (va_runS (As := [.int r_4]) (rest := []) ⟨hx, hb, hml, hown, hts⟩ (kJ6_bitCount_0f7a4 l r_4 r_5 hr_5) (va_cwS 1 hts gX7_fewest_J6_bitCount_0f7a4 rfl rfl rfl (by decide +kernel) ⟨Nat.le_of_ble_eq_true rfl, Nat.le_of_ble_eq_true rfl⟩) noS rfl rfl hl.1 rfl (lv_room (Nat.le_of_ble_eq_true rfl)) dX7_fewest_33 ⟨Nat.zero_le _, Nat.zero_le _⟩) ?_
      exact MQi.end hx hb hr hlocks hP hS dX7_fewest_36 rfl h
    · have h := br_F h c_20
      refine lv_iconst (v := 0) hx hb dX7_fewest_23 (by decide) ?_
      refine lv_goto (tgt := 36) hx hb dX7_fewest_24 (by decide) ?_
      exact MQi.end hx hb hr hlocks hP hS dX7_fewest_36 rfl h

def rmX7_toRetract : Room := { frames := 5, cells := 0, slots := 0, locals := 117 }

set_option maxHeartbeats 4000000 in
set_option maxRecDepth 100000 in
theorem kX7_toRetract (l : Launch) (G : GT) (q : Nat → Nat) (C : St) (sz : Nat) (x1 : Int32) (x2 : Int32) (r : Int32 × St) (h : pX7_toRetract C x1 x2 = some r) : Met l yX7_toRetract wsX7_toRetract rmX7_toRetract (va_Pc [.ref (q 0), .int x1, .int x2] (wrP G (MW G q C) sz)) (va_Qi (fun v u => (v, u) = r) (fun u t => va_P G.1 vwCl (MW G q u) t.heap) (va_A (MW G q C) sz)) 0 0 (va_A (MW G q C) sz) := by
  refine Met.ofW (cc := cX7_toRetract) (maxL := 3) (ret := (some .int)) (by decide) rfl ?_
  intro p e s m args below meth c s₁ B hml hv
  obtain ⟨rfl, hsz, hP, hK, hD0⟩ := hv
  have bx := bx_of B hml
  subst hsz
  have hD := hD0.self (sz := s.heap.size)
  generalize hAe : va_A (MW G q C) s.heap.size = A at hD ⊢
  have hA : ∀ q : Nat, s.heap.size ≤ q → A q := fun q h => by rw [← hAe]; exact Or.inr h
  have hS : va_S A s.heap s.heap [] := va_S.rf
  obtain ⟨hx, hb, hr, hts, hown, hml, hlocks⟩ := id bx
  have hl := lv_entry ([.ref (q 0), .int x1, .int x2]) (n := 3) (Nat.le_of_ble_eq_true rfl)
  rw [lg_entry_eq]
  generalize (lg_sl ([.ref (q 0), .int x1, .int x2]) ++ List.replicate (3 - (lg_sl ([.ref (q 0), .int x1, .int x2])).length) Slot.unset).toArray = ls at hl ⊢
  have hl : lv_has ls 3 [(0, .ref (q 0)), (1, .int x1), (2, .int x2)] := hl
  show W p l e rmX7_toRetract s m _ below meth c s.heap [] 0 0 (MQi G (MW G q) A s _ below r) (F0 m 0 ls [])
  unfold pX7_toRetract at h
  refine lv_aload_n hx hb dX7_toRetract_0 rfl (lv_at hl 0 rfl) ?_
  refine lv_aload_n hx hb dX7_toRetract_1 rfl (lv_at hl 0 rfl) ?_
  refine lv_iload_n hx hb dX7_toRetract_2 rfl (lv_at hl 1 rfl) ?_
  obtain ⟨r_1, hr_1, h⟩ := bd_ex h
  refine ro_i (va_runV (As := [.int x1]) (rest := [.ref (q 0)]) ⟨hx, hb, hml, hown, hts⟩ (kX7_isNone l G q C x1 r_1 hr_1) (cwV 1 hts gX7_toRetract_X7_isNone rfl rfl rfl (by decide +kernel) ⟨Nat.le_of_ble_eq_true rfl, Nat.le_of_ble_eq_true rfl⟩) (roV hP hK 8 0 rfl rfl) rfl rfl hl.1 rfl (lv_room (Nat.le_of_ble_eq_true rfl)) dX7_toRetract_3 ⟨Nat.zero_le _, Nat.zero_le _⟩) ?_
  refine lv_iconst (v := 1) hx hb dX7_toRetract_6 (by decide) ?_
  obtain ⟨u_2, hu_2, h⟩ := bd_ex h
  refine wr_i (Wd := MW G q) (va_runV (As := [.int r_1, .int 1]) (rest := []) ⟨hx, hb, hml, hown, hts⟩ (kX7_isThrown l G q C _ r_1 1 u_2 hu_2) (cwV 2 hts gX7_toRetract_X7_isThrown rfl rfl rfl (by decide +kernel) ⟨Nat.le_of_ble_eq_true rfl, Nat.le_of_ble_eq_true rfl⟩) (wrV hP hD hK 8 0 rfl rfl) rfl rfl hl.1 rfl (lv_room (Nat.le_of_ble_eq_true rfl)) dX7_toRetract_7 ⟨Nat.zero_le _, Nat.zero_le _⟩) hD hS hA (fun _ => rfl) (fun H locs hP hD hS => ?_)
  refine lv_if_ne (tgt := 23) hx hb dX7_toRetract_10 (by decide) (fun c_10 => ?_) (fun c_10 => ?_)
  · have h := br_F h c_10
    refine lv_iconst (v := 0) hx hb dX7_toRetract_23 (by decide) ?_
    refine lv_goto (tgt := 33) hx hb dX7_toRetract_24 (by decide) ?_
    exact MQi.end hx hb hr hlocks hP hS dX7_toRetract_33 rfl h
  · have h := br_T h c_10
    refine lv_aload_n hx hb dX7_toRetract_13 rfl (lv_at hl 0 rfl) ?_
    refine lv_iload_n hx hb dX7_toRetract_14 rfl (lv_at hl 1 rfl) ?_
    refine lv_iload_n hx hb dX7_toRetract_15 rfl (lv_at hl 2 rfl) ?_
    refine lv_iconst (v := 2) hx hb dX7_toRetract_16 (by decide) ?_
    obtain ⟨u_3, hu_3, h⟩ := bd_ex h
    refine wr_i (Wd := MW G q) (va_runV (As := [.int x1, .int x2, .int 2]) (rest := []) ⟨hx, hb, hml, hown, hts⟩ (kX7_isNoWish l G q u_2.2 _ x1 x2 2 u_3 hu_3) (cwV 3 hts gX7_toRetract_X7_isNoWish rfl rfl rfl (by decide +kernel) ⟨Nat.le_of_ble_eq_true rfl, Nat.le_of_ble_eq_true rfl⟩) (wrV hP hD hK 8 0 rfl rfl) rfl rfl hl.1 rfl (lv_room (Nat.le_of_ble_eq_true rfl)) dX7_toRetract_17 ⟨Nat.zero_le _, Nat.zero_le _⟩) hD hS hA (fun _ => rfl) (fun H locs hP hD hS => ?_)
    refine lv_if_eq (tgt := 27) hx hb dX7_toRetract_20 (by decide) (fun c_20 => ?_) (fun c_20 => ?_)
    · have h := br_T h c_20
      refine lv_aload_n hx hb dX7_toRetract_27 rfl (lv_at hl 0 rfl) ?_
      refine lv_iload_n hx hb dX7_toRetract_28 rfl (lv_at hl 1 rfl) ?_
      refine lv_iload_n hx hb dX7_toRetract_29 rfl (lv_at hl 2 rfl) ?_
      obtain ⟨r_4, hr_4, h⟩ := bd_ex h
      refine ro_i (va_runV (As := [.int x1, .int x2]) (rest := []) ⟨hx, hb, hml, hown, hts⟩ (kX7_wrong l G q u_3.2 x1 x2 r_4 hr_4) (cwV 2 hts gX7_toRetract_X7_wrong rfl rfl rfl (by decide +kernel) ⟨Nat.le_of_ble_eq_true rfl, Nat.le_of_ble_eq_true rfl⟩) (roV hP hK 8 0 rfl rfl) rfl rfl hl.1 rfl (lv_room (Nat.le_of_ble_eq_true rfl)) dX7_toRetract_30 ⟨Nat.zero_le _, Nat.zero_le _⟩) ?_
      exact MQi.end hx hb hr hlocks hP hS dX7_toRetract_33 rfl h
    · have h := br_F h c_20
      refine lv_iconst (v := 0) hx hb dX7_toRetract_23 (by decide) ?_
      refine lv_goto (tgt := 33) hx hb dX7_toRetract_24 (by decide) ?_
      exact MQi.end hx hb hr hlocks hP hS dX7_toRetract_33 rfl h

def rmX7_force : Room := { frames := 5, cells := 0, slots := 0, locals := 117 }

theorem in_wsX7_force_X7 : ∀ w ∈ u_ws RX7 TX7 24, w ∈ wsX7_force := by decide +kernel

set_option maxHeartbeats 4000000 in
set_option maxRecDepth 100000 in
theorem wX7_force_109 {p : Program} {l : Launch} {e : Env} {s : State} {m : MethodId} {args : Array Value} {below : List Frame} {meth : Method} {c : Code} {G : GT} {q : Nat → Nat} {A : Nat → Prop} {out : Int32 × St} (bx : BX p RX7 wsX7_force cX7_force 4 (some .int) s m args meth c) (hA : ∀ q : Nat, s.heap.size ≤ q → A q) (hK : CK G s) (C : St) (x3 : Int32) (t1 : Int32) (t2 : Int32) (h : pX7_force_109 C x3 t1 t2 = some out) {H : Heap} {locs : List Loc} (hP : va_P G.1 vwCl (MW G q C) H) (hD : va_D A (MW G q C)) (hS : va_S A s.heap H locs) (ls : Array Slot) (hl : lv_has ls 4 [(3, .int x3)]) : W p l e rmX7_force s m args below meth c H locs 0 0 (MQi G (MW G q) A s args below out) (F0 m 109 ls [.int t2, .int t1, .ref (q 0)]) := by
  obtain ⟨hx, hb, hr, hts, hown, hml, hlocks⟩ := id bx
  unfold pX7_force_109 at h
  refine lv_ior hx hb dX7_force_109 ?_
  refine va_put (D := G.1) (ci := 8) (v := .int (t1 ||| t2)) (ty := .int) (C := RX7) (T := TX7) (N := 24) hx hb hts in_wsX7_force_X7 tyX7 tyX7_ok nmX7 hown hK.1 hP hD hS 0 rfl rfl 20 (by decide) (w_mem hts 2 rfl) (fun _ h9 => h9) rfl (by decide +kernel) rfl rfl (Nat.le_of_ble_eq_true rfl) dX7_force_110 (fun H locs hP hD hS => ?_)
  have hP : va_P G.1 vwCl (MW G q (sS C 4 (t1 ||| t2))) H := hP
  have hD : va_D A (MW G q (sS C 4 (t1 ||| t2))) := hD
  obtain ⟨C_9, eC_9, h⟩ := ltv_ex h
  rw [← eC_9] at hP hD
  refine lv_iload_n hx hb dX7_force_113 rfl (lv_at hl 0 rfl) ?_
  obtain ⟨r_10, hr_10, h⟩ := bd_ex h
  refine ro_i (va_runS (As := [.int x3]) (rest := []) ⟨hx, hb, hml, hown, hts⟩ (kJ6_bitCount_0f7a4 l x3 r_10 hr_10) (va_cwS 1 hts gX7_force_J6_bitCount_0f7a4 rfl rfl rfl (by decide +kernel) ⟨Nat.le_of_ble_eq_true rfl, Nat.le_of_ble_eq_true rfl⟩) noS rfl rfl hl.1 rfl (lv_room (Nat.le_of_ble_eq_true rfl)) dX7_force_114 ⟨Nat.zero_le _, Nat.zero_le _⟩) ?_
  exact MQi.end hx hb hr hlocks hP hS dX7_force_117 rfl h

set_option maxHeartbeats 4000000 in
set_option maxRecDepth 100000 in
theorem wX7_force_89 {p : Program} {l : Launch} {e : Env} {s : State} {m : MethodId} {args : Array Value} {below : List Frame} {meth : Method} {c : Code} {G : GT} {q : Nat → Nat} {A : Nat → Prop} {out : Int32 × St} (bx : BX p RX7 wsX7_force cX7_force 4 (some .int) s m args meth c) (hA : ∀ q : Nat, s.heap.size ≤ q → A q) (hK : CK G s) (C : St) (x1 : Int32) (x2 : Int32) (x3 : Int32) (t1 : Int32) (t2 : Int32) (h : pX7_force_89 C x1 x2 x3 t1 t2 = some out) {H : Heap} {locs : List Loc} (hP : va_P G.1 vwCl (MW G q C) H) (hD : va_D A (MW G q C)) (hS : va_S A s.heap H locs) (ls : Array Slot) (hl : lv_has ls 4 [(0, .ref (q 0)), (1, .int x1), (2, .int x2), (3, .int x3)]) : W p l e rmX7_force s m args below meth c H locs 0 0 (MQi G (MW G q) A s args below out) (F0 m 89 ls [.int t2, .int t1, .ref (q 0)]) := by
  obtain ⟨hx, hb, hr, hts, hown, hml, hlocks⟩ := id bx
  unfold pX7_force_89 at h
  refine lv_ior hx hb dX7_force_89 ?_
  refine va_put (D := G.1) (ci := 8) (v := .int (t1 ||| t2)) (ty := .int) (C := RX7) (T := TX7) (N := 24) hx hb hts in_wsX7_force_X7 tyX7 tyX7_ok nmX7 hown hK.1 hP hD hS 0 rfl rfl 19 (by decide) (w_mem hts 1 rfl) (fun _ h9 => h9) rfl (by decide +kernel) rfl rfl (Nat.le_of_ble_eq_true rfl) dX7_force_90 (fun H locs hP hD hS => ?_)
  have hP : va_P G.1 vwCl (MW G q (sS C 3 (t1 ||| t2))) H := hP
  have hD : va_D A (MW G q (sS C 3 (t1 ||| t2))) := hD
  obtain ⟨C_8, eC_8, h⟩ := ltv_ex h
  rw [← eC_8] at hP hD
  refine lv_aload_n hx hb dX7_force_93 rfl (lv_at hl 0 rfl) ?_
  refine lv_dup hx hb dX7_force_94 rfl ?_
  refine va_get (D := G.1) (ci := 8) (v := .int (C_8.1 4)) (C := RX7) (T := TX7) (N := 24) hx hb hts in_wsX7_force_X7 hown hK.1 hP 0 rfl rfl 20 (by decide) (w_mem hts 2 rfl) (fun _ h9 => h9) rfl dX7_force_95 ?_
  refine lv_iload_n hx hb dX7_force_98 rfl (lv_at hl 2 rfl) ?_
  refine lv_if_eq (tgt := 106) hx hb dX7_force_99 (by decide) (fun c_99 => ?_) (fun c_99 => ?_)
  · have h := br_T h c_99
    refine lv_iconst (v := 1) hx hb dX7_force_106 (by decide) ?_
    refine lv_iload_n hx hb dX7_force_107 rfl (lv_at hl 1 rfl) ?_
    refine lv_ishl hx hb dX7_force_108 ?_
    exact wX7_force_109 bx hA hK C_8 x3 (C_8.1 4) ((1 : Int32) <<< (x1 &&& 31)) h hP hD hS _ (lv_sub hl [3] rfl)
  · have h := br_F h c_99
    refine lv_iconst (v := 0) hx hb dX7_force_102 (by decide) ?_
    refine lv_goto (tgt := 109) hx hb dX7_force_103 (by decide) ?_
    exact wX7_force_109 bx hA hK C_8 x3 (C_8.1 4) 0 h hP hD hS _ (lv_sub hl [3] rfl)

set_option maxHeartbeats 4000000 in
set_option maxRecDepth 100000 in
theorem wX7_force_23 {p : Program} {l : Launch} {e : Env} {s : State} {m : MethodId} {args : Array Value} {below : List Frame} {meth : Method} {c : Code} {G : GT} {q : Nat → Nat} {A : Nat → Prop} {out : Int32 × St} (bx : BX p RX7 wsX7_force cX7_force 4 (some .int) s m args meth c) (hA : ∀ q : Nat, s.heap.size ≤ q → A q) (hK : CK G s) (C : St) (x1 : Int32) (x2 : Int32) (t1 : Int32) (h : pX7_force_23 C x1 x2 t1 = some out) {H : Heap} {locs : List Loc} (hP : va_P G.1 vwCl (MW G q C) H) (hD : va_D A (MW G q C)) (hS : va_S A s.heap H locs) (ls : Array Slot) (hl : lv_has ls 4 [(0, .ref (q 0)), (1, .int x1), (2, .int x2)]) : W p l e rmX7_force s m args below meth c H locs 0 0 (MQi G (MW G q) A s args below out) (F0 m 23 ls [.int t1, .ref (q 0)]) := by
  obtain ⟨hx, hb, hr, hts, hown, hml, hlocks⟩ := id bx
  unfold pX7_force_23 at h
  refine lv_iconst (v := 2) hx hb dX7_force_23 (by decide) ?_
  obtain ⟨u_3, hu_3, h⟩ := bd_ex h
  refine wr_i (Wd := MW G q) (va_runV (As := [.int t1, .int 2]) (rest := []) ⟨hx, hb, hml, hown, hts⟩ (kX7_isThrown l G q C _ t1 2 u_3 hu_3) (cwV 2 hts gX7_force_X7_isThrown rfl rfl rfl (by decide +kernel) ⟨Nat.le_of_ble_eq_true rfl, Nat.le_of_ble_eq_true rfl⟩) (wrV hP hD hK 8 0 rfl rfl) rfl rfl hl.1 rfl (lv_room (Nat.le_of_ble_eq_true rfl)) dX7_force_24 ⟨Nat.zero_le _, Nat.zero_le _⟩) hD hS hA (fun _ => rfl) (fun H locs hP hD hS => ?_)
  refine lv_if_ne (tgt := 40) hx hb dX7_force_27 (by decide) (fun c_27 => ?_) (fun c_27 => ?_)
  · have h := br_F h c_27
    refine lv_iconst (v := 0) hx hb dX7_force_40 (by decide) ?_
    exact MQi.end hx hb hr hlocks hP hS dX7_force_41 rfl h
  · have h := br_T h c_27
    refine lv_aload_n hx hb dX7_force_30 rfl (lv_at hl 0 rfl) ?_
    refine lv_iload_n hx hb dX7_force_31 rfl (lv_at hl 1 rfl) ?_
    refine lv_iload_n hx hb dX7_force_32 rfl (lv_at hl 2 rfl) ?_
    refine lv_iconst (v := 3) hx hb dX7_force_33 (by decide) ?_
    obtain ⟨u_4, hu_4, h⟩ := bd_ex h
    refine wr_i (Wd := MW G q) (va_runV (As := [.int x1, .int x2, .int 3]) (rest := []) ⟨hx, hb, hml, hown, hts⟩ (kX7_isNoWish l G q u_3.2 _ x1 x2 3 u_4 hu_4) (cwV 3 hts gX7_force_X7_isNoWish rfl rfl rfl (by decide +kernel) ⟨Nat.le_of_ble_eq_true rfl, Nat.le_of_ble_eq_true rfl⟩) (wrV hP hD hK 8 0 rfl rfl) rfl rfl hl.1 rfl (lv_room (Nat.le_of_ble_eq_true rfl)) dX7_force_34 ⟨Nat.zero_le _, Nat.zero_le _⟩) hD hS hA (fun _ => rfl) (fun H locs hP hD hS => ?_)
    refine lv_if_eq (tgt := 42) hx hb dX7_force_37 (by decide) (fun c_37 => ?_) (fun c_37 => ?_)
    · have h := br_T h c_37
      refine lv_aload_n hx hb dX7_force_42 rfl (lv_at hl 0 rfl) ?_
      refine lv_iload_n hx hb dX7_force_43 rfl (lv_at hl 1 rfl) ?_
      refine lv_iload_n hx hb dX7_force_44 rfl (lv_at hl 2 rfl) ?_
      obtain ⟨r_5, hr_5, h⟩ := bd_ex h
      refine ro_i (va_runV (As := [.int x1, .int x2]) (rest := []) ⟨hx, hb, hml, hown, hts⟩ (kX7_wrong l G q u_4.2 x1 x2 r_5 hr_5) (cwV 2 hts gX7_force_X7_wrong rfl rfl rfl (by decide +kernel) ⟨Nat.le_of_ble_eq_true rfl, Nat.le_of_ble_eq_true rfl⟩) (roV hP hK 8 0 rfl rfl) rfl rfl hl.1 rfl (lv_room (Nat.le_of_ble_eq_true rfl)) dX7_force_45 ⟨Nat.zero_le _, Nat.zero_le _⟩) ?_
      refine lv_istore_n (lv' := [(3, .int r_5), (0, .ref (q 0)), (1, .int x1), (2, .int x2)]) hx hb dX7_force_48 rfl hl (by decide) rfl (fun ls hl => ?_)
      refine lv_aload_n hx hb dX7_force_49 rfl (lv_at hl 1 rfl) ?_
      refine lv_dup hx hb dX7_force_50 rfl ?_
      refine va_get (D := G.1) (ci := 8) (v := .int (u_4.2.1 3)) (C := RX7) (T := TX7) (N := 24) hx hb hts in_wsX7_force_X7 hown hK.1 hP 0 rfl rfl 19 (by decide) (w_mem hts 1 rfl) (fun _ h9 => h9) rfl dX7_force_51 ?_
      refine lv_iload_n hx hb dX7_force_54 rfl (lv_at hl 0 rfl) ?_
      refine lv_iconst (v := (-1)) hx hb dX7_force_55 (by decide) ?_
      refine lv_ixor hx hb dX7_force_56 ?_
      refine lv_iand hx hb dX7_force_57 ?_
      refine va_put (D := G.1) (ci := 8) (v := .int ((u_4.2.1 3) &&& (r_5 ^^^ (-1)))) (ty := .int) (C := RX7) (T := TX7) (N := 24) hx hb hts in_wsX7_force_X7 tyX7 tyX7_ok nmX7 hown hK.1 hP hD hS 0 rfl rfl 19 (by decide) (w_mem hts 1 rfl) (fun _ h9 => h9) rfl (by decide +kernel) rfl rfl (Nat.le_of_ble_eq_true rfl) dX7_force_58 (fun H locs hP hD hS => ?_)
      have hP : va_P G.1 vwCl (MW G q (sS u_4.2 3 ((u_4.2.1 3) &&& (r_5 ^^^ (-1))))) H := hP
      have hD : va_D A (MW G q (sS u_4.2 3 ((u_4.2.1 3) &&& (r_5 ^^^ (-1))))) := hD
      obtain ⟨C_6, eC_6, h⟩ := ltv_ex h
      rw [← eC_6] at hP hD
      refine lv_aload_n hx hb dX7_force_61 rfl (lv_at hl 1 rfl) ?_
      refine lv_dup hx hb dX7_force_62 rfl ?_
      refine va_get (D := G.1) (ci := 8) (v := .int (C_6.1 4)) (C := RX7) (T := TX7) (N := 24) hx hb hts in_wsX7_force_X7 hown hK.1 hP 0 rfl rfl 20 (by decide) (w_mem hts 2 rfl) (fun _ h9 => h9) rfl dX7_force_63 ?_
      refine lv_iload_n hx hb dX7_force_66 rfl (lv_at hl 0 rfl) ?_
      refine lv_iconst (v := (-1)) hx hb dX7_force_67 (by decide) ?_
      refine lv_ixor hx hb dX7_force_68 ?_
      refine lv_iand hx hb dX7_force_69 ?_
      refine va_put (D := G.1) (ci := 8) (v := .int ((C_6.1 4) &&& (r_5 ^^^ (-1)))) (ty := .int) (C := RX7) (T := TX7) (N := 24) hx hb hts in_wsX7_force_X7 tyX7 tyX7_ok nmX7 hown hK.1 hP hD hS 0 rfl rfl 20 (by decide) (w_mem hts 2 rfl) (fun _ h9 => h9) rfl (by decide +kernel) rfl rfl (Nat.le_of_ble_eq_true rfl) dX7_force_70 (fun H locs hP hD hS => ?_)
      have hP : va_P G.1 vwCl (MW G q (sS C_6 4 ((C_6.1 4) &&& (r_5 ^^^ (-1))))) H := hP
      have hD : va_D A (MW G q (sS C_6 4 ((C_6.1 4) &&& (r_5 ^^^ (-1))))) := hD
      obtain ⟨C_7, eC_7, h⟩ := ltv_ex h
      rw [← eC_7] at hP hD
      refine lv_aload_n hx hb dX7_force_73 rfl (lv_at hl 1 rfl) ?_
      refine lv_dup hx hb dX7_force_74 rfl ?_
      refine va_get (D := G.1) (ci := 8) (v := .int (C_7.1 3)) (C := RX7) (T := TX7) (N := 24) hx hb hts in_wsX7_force_X7 hown hK.1 hP 0 rfl rfl 19 (by decide) (w_mem hts 1 rfl) (fun _ h9 => h9) rfl dX7_force_75 ?_
      refine lv_iload_n hx hb dX7_force_78 rfl (lv_at hl 3 rfl) ?_
      refine lv_if_eq (tgt := 88) hx hb dX7_force_79 (by decide) (fun c_79 => ?_) (fun c_79 => ?_)
      · have h := br_T h c_79
        refine lv_iconst (v := 0) hx hb dX7_force_88 (by decide) ?_
        exact wX7_force_89 bx hA hK C_7 x1 x2 r_5 (C_7.1 3) 0 h hP hD hS _ (lv_sub hl [1, 2, 3, 0] rfl)
      · have h := br_F h c_79
        refine lv_iconst (v := 1) hx hb dX7_force_82 (by decide) ?_
        refine lv_iload_n hx hb dX7_force_83 rfl (lv_at hl 2 rfl) ?_
        refine lv_ishl hx hb dX7_force_84 ?_
        refine lv_goto (tgt := 89) hx hb dX7_force_85 (by decide) ?_
        exact wX7_force_89 bx hA hK C_7 x1 x2 r_5 (C_7.1 3) ((1 : Int32) <<< (x1 &&& 31)) h hP hD hS _ (lv_sub hl [1, 2, 3, 0] rfl)
    · have h := br_F h c_37
      refine lv_iconst (v := 0) hx hb dX7_force_40 (by decide) ?_
      exact MQi.end hx hb hr hlocks hP hS dX7_force_41 rfl h

set_option maxHeartbeats 4000000 in
set_option maxRecDepth 100000 in
theorem kX7_force (l : Launch) (G : GT) (q : Nat → Nat) (C : St) (sz : Nat) (x1 : Int32) (x2 : Int32) (r : Int32 × St) (h : pX7_force C x1 x2 = some r) : Met l yX7_force wsX7_force rmX7_force (va_Pc [.ref (q 0), .int x1, .int x2] (wrP G (MW G q C) sz)) (va_Qi (fun v u => (v, u) = r) (fun u t => va_P G.1 vwCl (MW G q u) t.heap) (va_A (MW G q C) sz)) 0 0 (va_A (MW G q C) sz) := by
  refine Met.ofW (cc := cX7_force) (maxL := 4) (ret := (some .int)) (by decide) rfl ?_
  intro p e s m args below meth c s₁ B hml hv
  obtain ⟨rfl, hsz, hP, hK, hD0⟩ := hv
  have bx := bx_of B hml
  subst hsz
  have hD := hD0.self (sz := s.heap.size)
  generalize hAe : va_A (MW G q C) s.heap.size = A at hD ⊢
  have hA : ∀ q : Nat, s.heap.size ≤ q → A q := fun q h => by rw [← hAe]; exact Or.inr h
  have hS : va_S A s.heap s.heap [] := va_S.rf
  obtain ⟨hx, hb, hr, hts, hown, hml, hlocks⟩ := id bx
  have hl := lv_entry ([.ref (q 0), .int x1, .int x2]) (n := 4) (Nat.le_of_ble_eq_true rfl)
  rw [lg_entry_eq]
  generalize (lg_sl ([.ref (q 0), .int x1, .int x2]) ++ List.replicate (4 - (lg_sl ([.ref (q 0), .int x1, .int x2])).length) Slot.unset).toArray = ls at hl ⊢
  have hl : lv_has ls 4 [(0, .ref (q 0)), (1, .int x1), (2, .int x2)] := hl
  show W p l e rmX7_force s m _ below meth c s.heap [] 0 0 (MQi G (MW G q) A s _ below r) (F0 m 0 ls [])
  unfold pX7_force at h
  refine lv_aload_n hx hb dX7_force_0 rfl (lv_at hl 0 rfl) ?_
  refine lv_aload_n hx hb dX7_force_1 rfl (lv_at hl 0 rfl) ?_
  refine lv_iload_n hx hb dX7_force_2 rfl (lv_at hl 1 rfl) ?_
  obtain ⟨r_1, hr_1, h⟩ := bd_ex h
  refine ro_i (va_runV (As := [.int x1]) (rest := [.ref (q 0)]) ⟨hx, hb, hml, hown, hts⟩ (kX7_isNone l G q C x1 r_1 hr_1) (cwV 1 hts gX7_force_X7_isNone rfl rfl rfl (by decide +kernel) ⟨Nat.le_of_ble_eq_true rfl, Nat.le_of_ble_eq_true rfl⟩) (roV hP hK 8 0 rfl rfl) rfl rfl hl.1 rfl (lv_room (Nat.le_of_ble_eq_true rfl)) dX7_force_3 ⟨Nat.zero_le _, Nat.zero_le _⟩) ?_
  refine lv_iconst (v := 1) hx hb dX7_force_6 (by decide) ?_
  obtain ⟨u_2, hu_2, h⟩ := bd_ex h
  refine wr_i (Wd := MW G q) (va_runV (As := [.int r_1, .int 1]) (rest := []) ⟨hx, hb, hml, hown, hts⟩ (kX7_isThrown l G q C _ r_1 1 u_2 hu_2) (cwV 2 hts gX7_force_X7_isThrown rfl rfl rfl (by decide +kernel) ⟨Nat.le_of_ble_eq_true rfl, Nat.le_of_ble_eq_true rfl⟩) (wrV hP hD hK 8 0 rfl rfl) rfl rfl hl.1 rfl (lv_room (Nat.le_of_ble_eq_true rfl)) dX7_force_7 ⟨Nat.zero_le _, Nat.zero_le _⟩) hD hS hA (fun _ => rfl) (fun H locs hP hD hS => ?_)
  refine lv_if_ne (tgt := 40) hx hb dX7_force_10 (by decide) (fun c_10 => ?_) (fun c_10 => ?_)
  · have h := br_F h c_10
    refine lv_iconst (v := 0) hx hb dX7_force_40 (by decide) ?_
    exact MQi.end hx hb hr hlocks hP hS dX7_force_41 rfl h
  · have h := br_T h c_10
    refine lv_aload_n hx hb dX7_force_13 rfl (lv_at hl 0 rfl) ?_
    refine lv_iload_n hx hb dX7_force_14 rfl (lv_at hl 1 rfl) ?_
    refine lv_if_ne (tgt := 22) hx hb dX7_force_15 (by decide) (fun c_15 => ?_) (fun c_15 => ?_)
    · have h := br_F h c_15
      refine lv_iconst (v := 0) hx hb dX7_force_22 (by decide) ?_
      exact wX7_force_23 bx hA hK u_2.2 x1 x2 0 h hP hD hS _ (lv_sub hl [0, 1, 2] rfl)
    · have h := br_T h c_15
      refine lv_iconst (v := 1) hx hb dX7_force_18 (by decide) ?_
      refine lv_goto (tgt := 23) hx hb dX7_force_19 (by decide) ?_
      exact wX7_force_23 bx hA hK u_2.2 x1 x2 1 h hP hD hS _ (lv_sub hl [0, 1, 2] rfl)

def rmX7_knownShare : Room := { frames := 5, cells := 0, slots := 0, locals := 110 }

theorem in_wsX7_knownShare_X7 : ∀ w ∈ u_ws RX7 TX7 24, w ∈ wsX7_knownShare := by decide +kernel

set_option maxHeartbeats 4000000 in
set_option maxRecDepth 100000 in
theorem kX7_knownShare (l : Launch) (G : GT) (q : Nat → Nat) (C : St) (sz : Nat) (r : UInt32 × St) (h : pX7_knownShare C = some r) : Met l yX7_knownShare wsX7_knownShare rmX7_knownShare (va_Pc [.ref (q 0)] (wrP G (MW G q C) sz)) (va_Qf (fun v u => (v, u) = r) (fun u t => va_P G.1 vwCl (MW G q u) t.heap) (va_A (MW G q C) sz)) 0 0 (va_A (MW G q C) sz) := by
  refine Met.ofW (cc := cX7_knownShare) (maxL := 1) (ret := (some .float)) (by decide) rfl ?_
  intro p e s m args below meth c s₁ B hml hv
  obtain ⟨rfl, hsz, hP, hK, hD0⟩ := hv
  have bx := bx_of B hml
  subst hsz
  have hD := hD0.self (sz := s.heap.size)
  generalize hAe : va_A (MW G q C) s.heap.size = A at hD ⊢
  have hA : ∀ q : Nat, s.heap.size ≤ q → A q := fun q h => by rw [← hAe]; exact Or.inr h
  have hS : va_S A s.heap s.heap [] := va_S.rf
  obtain ⟨hx, hb, hr, hts, hown, hml, hlocks⟩ := id bx
  have hl := lv_entry ([.ref (q 0)]) (n := 1) (Nat.le_of_ble_eq_true rfl)
  rw [lg_entry_eq]
  generalize (lg_sl ([.ref (q 0)]) ++ List.replicate (1 - (lg_sl ([.ref (q 0)])).length) Slot.unset).toArray = ls at hl ⊢
  have hl : lv_has ls 1 [(0, .ref (q 0))] := hl
  show W p l e rmX7_knownShare s m _ below meth c s.heap [] 0 0 (MQf G (MW G q) A s _ below r) (F0 m 0 ls [])
  unfold pX7_knownShare at h
  refine lv_aload_n hx hb dX7_knownShare_0 rfl (lv_at hl 0 rfl) ?_
  refine lv_iconst (v := 0) hx hb dX7_knownShare_1 (by decide) ?_
  refine va_put (D := G.1) (ci := 8) (v := .int 0) (ty := .int) (C := RX7) (T := TX7) (N := 24) hx hb hts in_wsX7_knownShare_X7 tyX7 tyX7_ok nmX7 hown hK.1 hP hD hS 0 rfl rfl 23 (by decide) (w_mem hts 1 rfl) (fun _ h9 => h9) rfl (by decide +kernel) rfl rfl (Nat.le_of_ble_eq_true rfl) dX7_knownShare_2 (fun H locs hP hD hS => ?_)
  have hP : va_P G.1 vwCl (MW G q (sS C 7 0)) H := hP
  have hD : va_D A (MW G q (sS C 7 0)) := hD
  obtain ⟨C_1, eC_1, h⟩ := ltv_ex h
  rw [← eC_1] at hP hD
  refine lv_aload_n hx hb dX7_knownShare_5 rfl (lv_at hl 0 rfl) ?_
  refine va_get (D := G.1) (ci := 8) (v := .int (C_1.1 0)) (C := RX7) (T := TX7) (N := 24) hx hb hts in_wsX7_knownShare_X7 hown hK.1 hP 0 rfl rfl 16 (by decide) (w_mem hts 2 rfl) (fun _ h9 => h9) rfl dX7_knownShare_6 ?_
  refine lv_aload_n hx hb dX7_knownShare_9 rfl (lv_at hl 0 rfl) ?_
  obtain ⟨u_2, hu_2, h⟩ := bd_ex h
  refine wr_i (Wd := MW G q) (va_runV (As := []) (rest := [.int (C_1.1 0)]) ⟨hx, hb, hml, hown, hts⟩ (kX7_unknowns l G q C_1 _ u_2 hu_2) (cwV 0 hts gX7_knownShare_X7_unknowns rfl rfl rfl (by decide +kernel) ⟨Nat.le_of_ble_eq_true rfl, Nat.le_of_ble_eq_true rfl⟩) (wrV hP hD hK 8 0 rfl rfl) rfl rfl hl.1 rfl (lv_room (Nat.le_of_ble_eq_true rfl)) dX7_knownShare_10 ⟨Nat.zero_le _, Nat.zero_le _⟩) hD hS hA (fun _ => rfl) (fun H locs hP hD hS => ?_)
  refine lv_isub hx hb dX7_knownShare_13 ?_
  refine lv_i2f hx hb dX7_knownShare_14 ?_
  refine lv_aload_n hx hb dX7_knownShare_15 rfl (lv_at hl 0 rfl) ?_
  refine va_get (D := G.1) (ci := 8) (v := .int (u_2.2.1 0)) (C := RX7) (T := TX7) (N := 24) hx hb hts in_wsX7_knownShare_X7 hown hK.1 hP 0 rfl rfl 16 (by decide) (w_mem hts 2 rfl) (fun _ h9 => h9) rfl dX7_knownShare_16 ?_
  refine lv_i2f hx hb dX7_knownShare_19 ?_
  obtain ⟨g20, h⟩ := gd_ex h
  refine lv_fdiv hx hb dX7_knownShare_20 (okN32_n g20) ?_
  exact MQf.end hx hb hr hlocks hP hS dX7_knownShare_21 h

def rmX7_meanPrice : Room := { frames := 4, cells := 0, slots := 0, locals := 89 }

theorem in_wsX7_meanPrice_X7 : ∀ w ∈ u_ws RX7 TX7 24, w ∈ wsX7_meanPrice := by decide +kernel

set_option maxHeartbeats 4000000 in
set_option maxRecDepth 100000 in
theorem wX7_meanPrice_56 {p : Program} {l : Launch} {e : Env} {s : State} {m : MethodId} {args : Array Value} {below : List Frame} {meth : Method} {c : Code} {G : GT} {q : Nat → Nat} {A : Nat → Prop} {out : UInt64 × St} (bx : BX p RX7 wsX7_meanPrice cX7_meanPrice 5 (some .double) s m args meth c) (hA : ∀ q : Nat, s.heap.size ≤ q → A q) (hK : CK G s) {k11 : St → Int32 → Int32 → Int32 → Option (UInt64 × St)} (hk11 : ∀ (C : St) (x1 : Int32) (x2 : Int32) (x3 : Int32), k11 C x1 x2 x3 = some out → ∀ (H : Heap) (locs : List Loc) (hP : va_P G.1 vwCl (MW G q C) H) (hD : va_D A (MW G q C)) (hS : va_S A s.heap H locs), ∀ (ls : Array Slot), lv_has ls 5 [(0, .ref (q 0)), (1, .int x1), (2, .int x2), (3, .int x3)] → W p l e rmX7_meanPrice s m args below meth c H locs 0 0 (MQd G (MW G q) A s args below out) (F0 m 11 ls [])) (C : St) (x1 : Int32) (x3 : Int32) (t0 : Int32) (t1 : Int32) (h : pX7_meanPrice_56 k11 C x1 x3 t0 t1 = some out) {H : Heap} {locs : List Loc} (hP : va_P G.1 vwCl (MW G q C) H) (hD : va_D A (MW G q C)) (hS : va_S A s.heap H locs) (ls : Array Slot) (hl : lv_has ls 5 [(0, .ref (q 0)), (1, .int x1), (3, .int x3)]) : W p l e rmX7_meanPrice s m args below meth c H locs 0 0 (MQd G (MW G q) A s args below out) (F0 m 56 ls [.int t1, .int t0]) := by
  obtain ⟨hx, hb, hr, hts, hown, hml, hlocks⟩ := id bx
  unfold pX7_meanPrice_56 at h
  refine lv_iadd hx hb dX7_meanPrice_56 ?_
  refine lv_topi (fun v_4 ev_4 => ?_)
  have h := ltv_at h v_4 ev_4
  refine lv_istore_n (lv' := [(2, .int v_4), (0, .ref (q 0)), (1, .int x1), (3, .int x3)]) hx hb dX7_meanPrice_57 rfl hl (by decide) rfl (fun ls hl => ?_)
  obtain ⟨v_5, ev_5, h⟩ := ltv_ex h
  refine lv_iinc (v := v_5) (lv' := [(3, .int v_5), (2, .int v_4), (0, .ref (q 0)), (1, .int x1)]) hx hb dX7_meanPrice_58 hl (k := 3) rfl (by rw [ev_5]; rfl) (by decide) rfl (fun ls hl => ?_)
  refine lv_goto (tgt := 11) hx hb dX7_meanPrice_61 (by decide) ?_
  exact hk11 C x1 v_4 v_5 h _ _ hP hD hS _ (lv_sub hl [2, 3, 1, 0] rfl)

set_option maxHeartbeats 4000000 in
set_option maxRecDepth 100000 in
theorem wX7_meanPrice_43 {p : Program} {l : Launch} {e : Env} {s : State} {m : MethodId} {args : Array Value} {below : List Frame} {meth : Method} {c : Code} {G : GT} {q : Nat → Nat} {A : Nat → Prop} {out : UInt64 × St} (bx : BX p RX7 wsX7_meanPrice cX7_meanPrice 5 (some .double) s m args meth c) (hA : ∀ q : Nat, s.heap.size ≤ q → A q) (hK : CK G s) {k11 : St → Int32 → Int32 → Int32 → Option (UInt64 × St)} (hk11 : ∀ (C : St) (x1 : Int32) (x2 : Int32) (x3 : Int32), k11 C x1 x2 x3 = some out → ∀ (H : Heap) (locs : List Loc) (hP : va_P G.1 vwCl (MW G q C) H) (hD : va_D A (MW G q C)) (hS : va_S A s.heap H locs), ∀ (ls : Array Slot), lv_has ls 5 [(0, .ref (q 0)), (1, .int x1), (2, .int x2), (3, .int x3)] → W p l e rmX7_meanPrice s m args below meth c H locs 0 0 (MQd G (MW G q) A s args below out) (F0 m 11 ls [])) (C : St) (x2 : Int32) (x3 : Int32) (x4 : Int32) (t0 : Int32) (t1 : Int32) (h : pX7_meanPrice_43 k11 C x2 x3 x4 t0 t1 = some out) {H : Heap} {locs : List Loc} (hP : va_P G.1 vwCl (MW G q C) H) (hD : va_D A (MW G q C)) (hS : va_S A s.heap H locs) (ls : Array Slot) (hl : lv_has ls 5 [(0, .ref (q 0)), (2, .int x2), (3, .int x3), (4, .int x4)]) : W p l e rmX7_meanPrice s m args below meth c H locs 0 0 (MQd G (MW G q) A s args below out) (F0 m 43 ls [.int t1, .int t0]) := by
  obtain ⟨hx, hb, hr, hts, hown, hml, hlocks⟩ := id bx
  unfold pX7_meanPrice_43 at h
  refine lv_iadd hx hb dX7_meanPrice_43 ?_
  refine lv_topi (fun v_3 ev_3 => ?_)
  have h := ltv_at h v_3 ev_3
  refine lv_istore_n (lv' := [(1, .int v_3), (0, .ref (q 0)), (2, .int x2), (3, .int x3), (4, .int x4)]) hx hb dX7_meanPrice_44 rfl hl (by decide) rfl (fun ls hl => ?_)
  refine lv_iload_n hx hb dX7_meanPrice_45 rfl (lv_at hl 2 rfl) ?_
  refine lv_iload hx hb dX7_meanPrice_46 (lv_at hl 4 rfl) ?_
  refine lv_if_eq (tgt := 55) hx hb dX7_meanPrice_48 (by decide) (fun c_48 => ?_) (fun c_48 => ?_)
  · have h := br_T h c_48
    refine lv_iconst (v := 0) hx hb dX7_meanPrice_55 (by decide) ?_
    exact wX7_meanPrice_56 bx hA hK hk11 C v_3 x3 x2 0 h hP hD hS _ (lv_sub hl [1, 0, 3] rfl)
  · have h := br_F h c_48
    refine lv_iconst (v := 1) hx hb dX7_meanPrice_51 (by decide) ?_
    refine lv_goto (tgt := 56) hx hb dX7_meanPrice_52 (by decide) ?_
    exact wX7_meanPrice_56 bx hA hK hk11 C v_3 x3 x2 1 h hP hD hS _ (lv_sub hl [1, 0, 3] rfl)

set_option maxHeartbeats 4000000 in
set_option maxRecDepth 100000 in
theorem wX7_meanPrice_11_b {p : Program} {l : Launch} {e : Env} {s : State} {m : MethodId} {args : Array Value} {below : List Frame} {meth : Method} {c : Code} {G : GT} {q : Nat → Nat} {A : Nat → Prop} {out : UInt64 × St} (bx : BX p RX7 wsX7_meanPrice cX7_meanPrice 5 (some .double) s m args meth c) (hA : ∀ q : Nat, s.heap.size ≤ q → A q) (hK : CK G s) {k11 : St → Int32 → Int32 → Int32 → Option (UInt64 × St)} (hk11 : ∀ (C : St) (x1 : Int32) (x2 : Int32) (x3 : Int32), k11 C x1 x2 x3 = some out → ∀ (H : Heap) (locs : List Loc) (hP : va_P G.1 vwCl (MW G q C) H) (hD : va_D A (MW G q C)) (hS : va_S A s.heap H locs), ∀ (ls : Array Slot), lv_has ls 5 [(0, .ref (q 0)), (1, .int x1), (2, .int x2), (3, .int x3)] → W p l e rmX7_meanPrice s m args below meth c H locs 0 0 (MQd G (MW G q) A s args below out) (F0 m 11 ls [])) (C : St) (x1 : Int32) (x2 : Int32) (x3 : Int32) (h : pX7_meanPrice_11_b k11 C x1 x2 x3 = some out) {H : Heap} {locs : List Loc} (hP : va_P G.1 vwCl (MW G q C) H) (hD : va_D A (MW G q C)) (hS : va_S A s.heap H locs) (ls : Array Slot) (hl : lv_has ls 5 [(0, .ref (q 0)), (1, .int x1), (2, .int x2), (3, .int x3)]) : W p l e rmX7_meanPrice s m args below meth c H locs 0 0 (MQd G (MW G q) A s args below out) (F0 m 11 ls []) := by
  obtain ⟨hx, hb, hr, hts, hown, hml, hlocks⟩ := id bx
  unfold pX7_meanPrice_11_b at h
  refine lv_iload_n hx hb dX7_meanPrice_11 rfl (lv_at hl 3 rfl) ?_
  refine lv_iconst (v := 1) hx hb dX7_meanPrice_12 (by decide) ?_
  refine lv_aload_n hx hb dX7_meanPrice_13 rfl (lv_at hl 0 rfl) ?_
  refine va_get (D := G.1) (ci := 8) (v := .int (C.1 0)) (C := RX7) (T := TX7) (N := 24) hx hb hts in_wsX7_meanPrice_X7 hown hK.1 hP 0 rfl rfl 16 (by decide) (w_mem hts 2 rfl) (fun _ h9 => h9) rfl dX7_meanPrice_14 ?_
  refine lv_ishl hx hb dX7_meanPrice_17 ?_
  refine lv_icmp_ge (tgt := 64) hx hb dX7_meanPrice_18 (by decide) (fun c_18 => ?_) (fun c_18 => ?_)
  · have h := br_T h c_18
    refine lv_iload_n hx hb dX7_meanPrice_64 rfl (lv_at hl 1 rfl) ?_
    refine lv_i2d hx hb dX7_meanPrice_65 ?_
    refine lv_iload_n hx hb dX7_meanPrice_66 rfl (lv_at hl 2 rfl) ?_
    refine lv_i2d hx hb dX7_meanPrice_67 ?_
    obtain ⟨g68, h⟩ := gd_ex h
    refine lv_ddiv hx hb dX7_meanPrice_68 (okN64_n g68) ?_
    exact MQd.end hx hb hr hlocks hP hS dX7_meanPrice_69 h
  · have h := br_F h c_18
    refine lv_aload_n hx hb dX7_meanPrice_21 rfl (lv_at hl 0 rfl) ?_
    refine lv_iload_n hx hb dX7_meanPrice_22 rfl (lv_at hl 3 rfl) ?_
    obtain ⟨r_2, hr_2, h⟩ := bd_ex h
    refine ro_i (va_runV (As := [.int x3]) (rest := []) ⟨hx, hb, hml, hown, hts⟩ (kX7_completes l G q C x3 r_2 hr_2) (cwV 1 hts gX7_meanPrice_X7_completes rfl rfl rfl (by decide +kernel) ⟨Nat.le_of_ble_eq_true rfl, Nat.le_of_ble_eq_true rfl⟩) (roV hP hK 8 0 rfl rfl) rfl rfl hl.1 rfl (lv_room (Nat.le_of_ble_eq_true rfl)) dX7_meanPrice_23 ⟨Nat.zero_le _, Nat.zero_le _⟩) ?_
    refine lv_istore (lv' := [(4, .int r_2), (0, .ref (q 0)), (1, .int x1), (2, .int x2), (3, .int x3)]) hx hb dX7_meanPrice_26 hl (by decide) rfl (fun ls hl => ?_)
    refine lv_iload_n hx hb dX7_meanPrice_28 rfl (lv_at hl 2 rfl) ?_
    refine lv_iload hx hb dX7_meanPrice_29 (lv_at hl 0 rfl) ?_
    refine lv_if_eq (tgt := 42) hx hb dX7_meanPrice_31 (by decide) (fun c_31 => ?_) (fun c_31 => ?_)
    · have h := br_T h c_31
      refine lv_iconst (v := 0) hx hb dX7_meanPrice_42 (by decide) ?_
      exact wX7_meanPrice_43 bx hA hK hk11 C x2 x3 r_2 x1 0 h hP hD hS _ (lv_sub hl [1, 3, 4, 0] rfl)
    · have h := br_F h c_31
      refine lv_aload_n hx hb dX7_meanPrice_34 rfl (lv_at hl 1 rfl) ?_
      refine lv_iload_n hx hb dX7_meanPrice_35 rfl (lv_at hl 4 rfl) ?_
      obtain ⟨r_6, hr_6, h⟩ := bd_ex h
      refine ro_i (va_runV (As := [.int x3]) (rest := [.int x1]) ⟨hx, hb, hml, hown, hts⟩ (kX7_priced l G q C x3 r_6 hr_6) (cwV 1 hts gX7_meanPrice_X7_priced rfl rfl rfl (by decide +kernel) ⟨Nat.le_of_ble_eq_true rfl, Nat.le_of_ble_eq_true rfl⟩) (roV hP hK 8 0 rfl rfl) rfl rfl hl.1 rfl (lv_room (Nat.le_of_ble_eq_true rfl)) dX7_meanPrice_36 ⟨Nat.zero_le _, Nat.zero_le _⟩) ?_
      refine lv_goto (tgt := 43) hx hb dX7_meanPrice_39 (by decide) ?_
      exact wX7_meanPrice_43 bx hA hK hk11 C x2 x3 r_2 x1 r_6 h hP hD hS _ (lv_sub hl [1, 3, 4, 0] rfl)

theorem wX7_meanPrice_11 {p : Program} {l : Launch} {e : Env} {s : State} {m : MethodId} {args : Array Value} {below : List Frame} {meth : Method} {c : Code} {G : GT} {q : Nat → Nat} {A : Nat → Prop} {out : UInt64 × St} (bx : BX p RX7 wsX7_meanPrice cX7_meanPrice 5 (some .double) s m args meth c) (hA : ∀ q : Nat, s.heap.size ≤ q → A q) (hK : CK G s) :
    ∀ (n : Nat) (C : St) (x1 : Int32) (x2 : Int32) (x3 : Int32), pX7_meanPrice_11 n C x1 x2 x3 = some out → ∀ (H : Heap) (locs : List Loc) (hP : va_P G.1 vwCl (MW G q C) H) (hD : va_D A (MW G q C)) (hS : va_S A s.heap H locs), ∀ (ls : Array Slot), lv_has ls 5 [(0, .ref (q 0)), (1, .int x1), (2, .int x2), (3, .int x3)] → W p l e rmX7_meanPrice s m args below meth c H locs 0 0 (MQd G (MW G q) A s args below out) (F0 m 11 ls []) := by
  intro n
  induction n with
  | zero => intro _ _ _ _ h; cases h
  | succ n ih => exact fun a0 a1 a2 a3 h _ _ hP hD hS ls hl => wX7_meanPrice_11_b bx hA hK ih a0 a1 a2 a3 h hP hD hS ls hl

set_option maxHeartbeats 4000000 in
set_option maxRecDepth 100000 in
theorem kX7_meanPrice (l : Launch) (G : GT) (q : Nat → Nat) (C : St) (sz : Nat) (r : UInt64 × St) (h : pX7_meanPrice C = some r) : Met l yX7_meanPrice wsX7_meanPrice rmX7_meanPrice (va_Pc [.ref (q 0)] (wrP G (MW G q C) sz)) (va_Qd (fun v u => (v, u) = r) (fun u t => va_P G.1 vwCl (MW G q u) t.heap) (va_A (MW G q C) sz)) 0 0 (va_A (MW G q C) sz) := by
  refine Met.ofW (cc := cX7_meanPrice) (maxL := 5) (ret := (some .double)) (by decide) rfl ?_
  intro p e s m args below meth c s₁ B hml hv
  obtain ⟨rfl, hsz, hP, hK, hD0⟩ := hv
  have bx := bx_of B hml
  subst hsz
  have hD := hD0.self (sz := s.heap.size)
  generalize hAe : va_A (MW G q C) s.heap.size = A at hD ⊢
  have hA : ∀ q : Nat, s.heap.size ≤ q → A q := fun q h => by rw [← hAe]; exact Or.inr h
  have hS : va_S A s.heap s.heap [] := va_S.rf
  obtain ⟨hx, hb, hr, hts, hown, hml, hlocks⟩ := id bx
  have hl := lv_entry ([.ref (q 0)]) (n := 5) (Nat.le_of_ble_eq_true rfl)
  rw [lg_entry_eq]
  generalize (lg_sl ([.ref (q 0)]) ++ List.replicate (5 - (lg_sl ([.ref (q 0)])).length) Slot.unset).toArray = ls at hl ⊢
  have hl : lv_has ls 5 [(0, .ref (q 0))] := hl
  show W p l e rmX7_meanPrice s m _ below meth c s.heap [] 0 0 (MQd G (MW G q) A s _ below r) (F0 m 0 ls [])
  unfold pX7_meanPrice at h
  refine lv_aload_n hx hb dX7_meanPrice_0 rfl (lv_at hl 0 rfl) ?_
  refine lv_iconst (v := 0) hx hb dX7_meanPrice_1 (by decide) ?_
  refine va_put (D := G.1) (ci := 8) (v := .int 0) (ty := .int) (C := RX7) (T := TX7) (N := 24) hx hb hts in_wsX7_meanPrice_X7 tyX7 tyX7_ok nmX7 hown hK.1 hP hD hS 0 rfl rfl 23 (by decide) (w_mem hts 1 rfl) (fun _ h9 => h9) rfl (by decide +kernel) rfl rfl (Nat.le_of_ble_eq_true rfl) dX7_meanPrice_2 (fun H locs hP hD hS => ?_)
  have hP : va_P G.1 vwCl (MW G q (sS C 7 0)) H := hP
  have hD : va_D A (MW G q (sS C 7 0)) := hD
  obtain ⟨C_1, eC_1, h⟩ := ltv_ex h
  rw [← eC_1] at hP hD
  refine lv_iconst (v := 0) hx hb dX7_meanPrice_5 (by decide) ?_
  refine lv_istore_n (lv' := [(1, .int 0), (0, .ref (q 0))]) hx hb dX7_meanPrice_6 rfl hl (by decide) rfl (fun ls hl => ?_)
  refine lv_iconst (v := 0) hx hb dX7_meanPrice_7 (by decide) ?_
  refine lv_istore_n (lv' := [(2, .int 0), (1, .int 0), (0, .ref (q 0))]) hx hb dX7_meanPrice_8 rfl hl (by decide) rfl (fun ls hl => ?_)
  refine lv_iconst (v := 1) hx hb dX7_meanPrice_9 (by decide) ?_
  refine lv_istore_n (lv' := [(3, .int 1), (2, .int 0), (1, .int 0), (0, .ref (q 0))]) hx hb dX7_meanPrice_10 rfl hl (by decide) rfl (fun ls hl => ?_)
  exact wX7_meanPrice_11 bx hA hK FU C_1 0 0 1 h _ _ hP hD hS _ (lv_sub hl [3, 2, 1, 0] rfl)

def rmX7_isSound : Room := { frames := 0, cells := 0, slots := 0, locals := 0 }

theorem in_wsX7_isSound_X7 : ∀ w ∈ u_ws RX7 TX7 24, w ∈ wsX7_isSound := by decide +kernel

set_option maxHeartbeats 4000000 in
set_option maxRecDepth 100000 in
theorem kX7_isSound (l : Launch) (G : GT) (q : Nat → Nat) (C : St) (sz : Nat) (r : Int32 × St) (h : pX7_isSound C = some r) : Met l yX7_isSound wsX7_isSound rmX7_isSound (va_Pc [.ref (q 0)] (wrP G (MW G q C) sz)) (va_Qi (fun v u => (v, u) = r) (fun u t => va_P G.1 vwCl (MW G q u) t.heap) (va_A (MW G q C) sz)) 0 0 (va_A (MW G q C) sz) := by
  refine Met.ofW (cc := cX7_isSound) (maxL := 1) (ret := (some .boolean)) (by decide) rfl ?_
  intro p e s m args below meth c s₁ B hml hv
  obtain ⟨rfl, hsz, hP, hK, hD0⟩ := hv
  have bx := bx_of B hml
  subst hsz
  have hD := hD0.self (sz := s.heap.size)
  generalize hAe : va_A (MW G q C) s.heap.size = A at hD ⊢
  have hA : ∀ q : Nat, s.heap.size ≤ q → A q := fun q h => by rw [← hAe]; exact Or.inr h
  have hS : va_S A s.heap s.heap [] := va_S.rf
  obtain ⟨hx, hb, hr, hts, hown, hml, hlocks⟩ := id bx
  have hl := lv_entry ([.ref (q 0)]) (n := 1) (Nat.le_of_ble_eq_true rfl)
  rw [lg_entry_eq]
  generalize (lg_sl ([.ref (q 0)]) ++ List.replicate (1 - (lg_sl ([.ref (q 0)])).length) Slot.unset).toArray = ls at hl ⊢
  have hl : lv_has ls 1 [(0, .ref (q 0))] := hl
  show W p l e rmX7_isSound s m _ below meth c s.heap [] 0 0 (MQi G (MW G q) A s _ below r) (F0 m 0 ls [])
  unfold pX7_isSound at h
  refine lv_aload_n hx hb dX7_isSound_0 rfl (lv_at hl 0 rfl) ?_
  refine lv_iconst (v := 0) hx hb dX7_isSound_1 (by decide) ?_
  refine va_put (D := G.1) (ci := 8) (v := .int 0) (ty := .int) (C := RX7) (T := TX7) (N := 24) hx hb hts in_wsX7_isSound_X7 tyX7 tyX7_ok nmX7 hown hK.1 hP hD hS 0 rfl rfl 23 (by decide) (w_mem hts 1 rfl) (fun _ h9 => h9) rfl (by decide +kernel) rfl rfl (Nat.le_of_ble_eq_true rfl) dX7_isSound_2 (fun H locs hP hD hS => ?_)
  have hP : va_P G.1 vwCl (MW G q (sS C 7 0)) H := hP
  have hD : va_D A (MW G q (sS C 7 0)) := hD
  obtain ⟨C_1, eC_1, h⟩ := ltv_ex h
  rw [← eC_1] at hP hD
  refine lv_iconst (v := 1) hx hb dX7_isSound_5 (by decide) ?_
  exact MQi.end hx hb hr hlocks hP hS dX7_isSound_6 rfl h
