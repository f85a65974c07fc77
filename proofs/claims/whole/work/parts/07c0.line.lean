theorem in_wsX7_lineLength_X7 : ∀ w ∈ u_ws RX7 TX7 24, w ∈ wsX7_lineLength := by decide +kernel
def rmX7_lineLength : Room := { frames := 8, cells := 52, slots := 3500, locals := 214 }
set_option maxHeartbeats 4000000 in
set_option maxRecDepth 100000 in
theorem kX7_lineLength (l : Launch) (G : GT) (q : Nat → Nat) (C E : St) (K : Kn) (N : Nat) (sz : Nat) (hd : pX7_deduces (sS C 7 0) = some E) (hN : N ≤ 12) (e0 : E.1 0 = nI N) (e5 : E.1 5 = nI K.1.1) (e6 : E.1 6 = nI K.1.2) (hb5 : K.1.1 < 2 ^ 31) (hb6 : K.1.2 < 2 ^ 31) (e8 : ∀ f, f < N → E.2 8 f = K.2.1 f) (hk : ∀ f, f < N → (K.2.1 f = 45 ↔ knK K f = false)) (hL : lat K) : Met l yX7_lineLength wsX7_lineLength rmX7_lineLength (va_Pc [.ref (q 0)] (zP G (MW G q C) sz)) (va_Qi (fun v u => (v, u) = (nI (lnT K N).length, E)) (fun u t => va_P G.1 vwCl (MW G q u) t.heap) (va_A (MW G q C) sz)) 52 3500 (va_A (MW G q C) sz) := by
  refine Met.ofW (cc := cX7_lineLength) (maxL := 1) (ret := (some .int)) (by decide) rfl ?_
  intro p e s mt args below meth c s₁ B hml hv
  obtain ⟨rfl, ⟨hsz, hP, hK, hD0⟩, hZ⟩ := hv
  have bx := bx_of B hml
  subst hsz
  have hD := hD0.self (sz := s.heap.size)
  generalize hAe : va_A (MW G q C) s.heap.size = A at hD hZ ⊢
  have hA : ∀ q : Nat, s.heap.size ≤ q → A q := fun q h => by rw [← hAe]; exact Or.inr h
  have hS : va_S A s.heap s.heap [] := va_S.rf
  obtain ⟨hx, hb, hr, hts, hown, hml, hlocks⟩ := id bx
  have hl := lv_entry ([.ref (q 0)]) (n := 1) (Nat.le_of_ble_eq_true rfl)
  rw [lg_entry_eq]
  generalize (lg_sl ([.ref (q 0)]) ++ List.replicate (1 - (lg_sl ([.ref (q 0)])).length) Slot.unset).toArray = ls at hl ⊢
  have hl : lv_has ls 1 [(0, .ref (q 0))] := hl
  show W p l e rmX7_lineLength s mt _ below meth c s.heap [] 0 0 _ (F0 mt 0 ls [])
  refine lv_aload_n hx hb dX7_lineLength_0 rfl (lv_at hl 0 rfl) ?_
  refine lv_iconst (v := 0) hx hb dX7_lineLength_1 (by decide) ?_
  refine va_put (D := G.1) (ci := 8) (v := .int 0) (ty := .int) (C := RX7) (T := TX7) (N := 24) hx hb hts in_wsX7_lineLength_X7 tyX7 tyX7_ok nmX7 hown hK.1 hP hD hS 0 rfl rfl 23 (by decide) (w_mem hts 1 rfl) (fun _ h9 => h9) rfl (by decide +kernel) rfl rfl (Nat.le_of_ble_eq_true rfl) dX7_lineLength_2 (fun H locs hP hD hS => ?_)
  have hP : va_P G.1 vwCl (MW G q (sS C 7 0)) H := hP
  have hD : va_D A (MW G q (sS C 7 0)) := hD
  refine lv_aload_n hx hb dX7_lineLength_5 rfl (lv_at hl 0 rfl) ?_
  refine j_r (Wd := fun (u : Nat × (Nat → Int32)) (r : Nat) => MW G q E ++ [str r u.1, byt G u.1 (lnT K N).length u.2]) (wc := MW G q (sS C 7 0)) (wr := []) (va_runV (As := []) (rest := []) ⟨hx, hb, hml, hown, hts⟩ (kX7_line l G q (sS C 7 0) E K N _ hd hN e0 e5 e6 hb5 hb6 e8 hk hL) (cwV 0 hts gX7_lineLength_X7_line rfl rfl rfl (by decide +kernel) ⟨Nat.le_of_ble_eq_true rfl, Nat.le_of_ble_eq_true rfl⟩) (zV hP hD hS hK hA hZ 8 0 rfl rfl) rfl rfl hl.1 rfl (lv_room (Nat.le_of_ble_eq_true rfl)) dX7_lineLength_6 ⟨Nat.le_of_ble_eq_true rfl, Nat.le_of_ble_eq_true rfl⟩) hP hD hS hA [0, 1, 2, 3, 4, 5, 6, 7, 8, 9, 10, 11, 12, 13, 14, 15, 16] [] rfl rfl (by decide) (by decide) (fun u r H locs hu hP hD hS => ?_)
  have hP : va_P G.1 vwCl ([] ++ (MW G q E ++ [str r u.1, byt G u.1 (lnT K N).length u.2])) H := hP
  have hD : va_D A ([] ++ (MW G q E ++ [str r u.1, byt G u.1 (lnT K N).length u.2])) := hD
  refine ro_i (va_runV (As := []) (rest := []) ⟨hx, hb, hml, hown, hts⟩ (kJ0_length_8abf5 l G r u.1 (lnT K N).length u.2) (cwV 0 hts gX7_lineLength_J0_length_8abf5 rfl rfl rfl (by decide +kernel) ⟨Nat.le_of_ble_eq_true rfl, Nat.le_of_ble_eq_true rfl⟩) (yV (hP.sub (ws' := [str r u.1, byt G u.1 (lnT K N).length u.2]) [17, 18] rfl) hS hK hZ 0 0 rfl rfl) rfl rfl hl.1 rfl (lv_room (Nat.le_of_ble_eq_true rfl)) dX7_lineLength_9 ⟨Nat.le_of_ble_eq_true rfl, Nat.le_of_ble_eq_true rfl⟩) ?_
  refine W.widen (k := 52) (n := 3500) (by decide) (by decide) ?_
  exact W.zret hx hb hr rfl (fun t ht _ => ⟨⟨_, E, rfl, rfl, by show va_P G.1 vwCl (MW G q E) t.heap; rw [ht]; exact hP.sub (ws' := MW G q E) [0, 1, 2, 3, 4, 5, 6, 7, 8, 9, 10, 11, 12, 13, 14, 15, 16] rfl⟩, hS.F ht⟩) hS.2.2 dX7_lineLength_12 hlocks

def rmX7_lineAt : Room := { frames := 8, cells := 52, slots := 3500, locals := 214 }
set_option maxHeartbeats 4000000 in
set_option maxRecDepth 100000 in
theorem kX7_lineAt (l : Launch) (G : GT) (q : Nat → Nat) (C E : St) (K : Kn) (N : Nat) (x : Int32) (b : Bool) (ch : Int32) (sz : Nat) (hd : pX7_deduces (C) = some E) (hN : N ≤ 12) (e0 : E.1 0 = nI N) (e5 : E.1 5 = nI K.1.1) (e6 : E.1 6 = nI K.1.2) (hb5 : K.1.1 < 2 ^ 31) (hb6 : K.1.2 < 2 ^ 31) (e8 : ∀ f, f < N → E.2 8 f = K.2.1 f) (hk : ∀ f, f < N → (K.2.1 f = 45 ↔ knK K f = false)) (hL : lat K) (hin : pX7_isIn E x 0 (nI (lnT K N).length - 1) = some (b2i b)) (hch : b = true → ∃ i, i < (lnT K N).length ∧ x = nI i ∧ (lnT K N)[i]? = some ch) : Met l yX7_lineAt wsX7_lineAt rmX7_lineAt (va_Pc [.ref (q 0), .int x] (zP G (MW G q C) sz)) (va_Qi (fun v u => (v, u) = (if b then ch else 45, sS E 7 (if b then 0 else 1))) (fun u t => va_P G.1 vwCl (MW G q u) t.heap) (va_A (MW G q C) sz)) 52 3500 (va_A (MW G q C) sz) := by
  refine Met.ofW (cc := cX7_lineAt) (maxL := 3) (ret := (some .char)) (by decide) rfl ?_
  intro p e s mt args below meth c s₁ B hml hv
  obtain ⟨rfl, ⟨hsz, hP, hK, hD0⟩, hZ⟩ := hv
  have bx := bx_of B hml
  subst hsz
  have hD := hD0.self (sz := s.heap.size)
  generalize hAe : va_A (MW G q C) s.heap.size = A at hD hZ ⊢
  have hA : ∀ q : Nat, s.heap.size ≤ q → A q := fun q h => by rw [← hAe]; exact Or.inr h
  have hS : va_S A s.heap s.heap [] := va_S.rf
  obtain ⟨hx, hb, hr, hts, hown, hml, hlocks⟩ := id bx
  have hl := lv_entry ([.ref (q 0), .int x]) (n := 3) (Nat.le_of_ble_eq_true rfl)
  rw [lg_entry_eq]
  generalize (lg_sl ([.ref (q 0), .int x]) ++ List.replicate (3 - (lg_sl ([.ref (q 0), .int x])).length) Slot.unset).toArray = ls at hl ⊢
  have hl : lv_has ls 3 [(0, .ref (q 0)), (1, .int x)] := hl
  show W p l e rmX7_lineAt s mt _ below meth c s.heap [] 0 0 _ (F0 mt 0 ls [])
  refine lv_aload_n hx hb dX7_lineAt_0 rfl (lv_at hl 0 rfl) ?_
  refine j_r (Wd := fun (u : Nat × (Nat → Int32)) (r : Nat) => MW G q E ++ [str r u.1, byt G u.1 (lnT K N).length u.2]) (wc := MW G q (C)) (wr := []) (va_runV (As := []) (rest := []) ⟨hx, hb, hml, hown, hts⟩ (kX7_line l G q (C) E K N _ hd hN e0 e5 e6 hb5 hb6 e8 hk hL) (cwV 0 hts gX7_lineAt_X7_line rfl rfl rfl (by decide +kernel) ⟨Nat.le_of_ble_eq_true rfl, Nat.le_of_ble_eq_true rfl⟩) (zV hP hD hS hK hA hZ 8 0 rfl rfl) rfl rfl hl.1 rfl (lv_room (Nat.le_of_ble_eq_true rfl)) dX7_lineAt_1 ⟨Nat.le_of_ble_eq_true rfl, Nat.le_of_ble_eq_true rfl⟩) hP hD hS hA [0, 1, 2, 3, 4, 5, 6, 7, 8, 9, 10, 11, 12, 13, 14, 15, 16] [] rfl rfl (by decide) (by decide) (fun u r H locs hu hP hD hS => ?_)
  have hP : va_P G.1 vwCl ([] ++ (MW G q E ++ [str r u.1, byt G u.1 (lnT K N).length u.2])) H := hP
  have hD : va_D A ([] ++ (MW G q E ++ [str r u.1, byt G u.1 (lnT K N).length u.2])) := hD
  refine lv_astore_n (lv' := [(2, .ref r), (0, .ref (q 0)), (1, .int x)]) hx hb dX7_lineAt_4 rfl hl (by decide) rfl (fun ls hl => ?_)
  refine lv_aload_n hx hb dX7_lineAt_5 rfl (lv_at hl 1 rfl) ?_
  refine lv_iload_n hx hb dX7_lineAt_6 rfl (lv_at hl 2 rfl) ?_
  refine lv_iconst (v := 0) hx hb dX7_lineAt_7 (by decide) ?_
  refine lv_aload_n hx hb dX7_lineAt_8 rfl (lv_at hl 0 rfl) ?_
  refine ro_i (va_runV (As := []) (rest := [.int 0, .int x, .ref (q 0)]) ⟨hx, hb, hml, hown, hts⟩ (kJ0_length_8abf5 l G r u.1 (lnT K N).length u.2) (cwV 0 hts gX7_lineAt_J0_length_8abf5 rfl rfl rfl (by decide +kernel) ⟨Nat.le_of_ble_eq_true rfl, Nat.le_of_ble_eq_true rfl⟩) (yV (hP.sub (ws' := [str r u.1, byt G u.1 (lnT K N).length u.2]) [17, 18] rfl) hS hK hZ 0 0 rfl rfl) rfl rfl hl.1 rfl (lv_room (Nat.le_of_ble_eq_true rfl)) dX7_lineAt_9 ⟨Nat.le_of_ble_eq_true rfl, Nat.le_of_ble_eq_true rfl⟩) ?_
  refine lv_iconst (v := 1) hx hb dX7_lineAt_12 (by decide) ?_
  refine lv_isub hx hb dX7_lineAt_13 ?_
  refine ro_i (va_runS (As := [.int x, .int 0, .int (nI (lnT K N).length - 1)]) (rest := [.ref (q 0)]) ⟨hx, hb, hml, hown, hts⟩ (kX7_isIn l G q E x 0 (nI (lnT K N).length - 1) _ hin) (va_cwS 3 hts gX7_lineAt_X7_isIn rfl rfl rfl (by decide +kernel) ⟨Nat.le_of_ble_eq_true rfl, Nat.le_of_ble_eq_true rfl⟩) (roS (fr_mid [] [str r u.1, byt G u.1 (lnT K N).length u.2] hP) hK) rfl rfl hl.1 rfl (lv_room (Nat.le_of_ble_eq_true rfl)) dX7_lineAt_14 ⟨Nat.le_of_ble_eq_true rfl, Nat.le_of_ble_eq_true rfl⟩) ?_
  cases b with
  | true =>
    obtain ⟨i, hi, hxi, hc⟩ := hch rfl
    refine lv_if_ne (tgt := 24) hx hb dX7_lineAt_17 (by decide) (fun _ => ?_) (fun c_ => absurd c_ (show ¬ b2i true = 0 by decide))
    refine lv_iconst (v := 0) hx hb dX7_lineAt_24 (by decide) ?_
    refine lv_iconst (v := 1) hx hb dX7_lineAt_25 (by decide) ?_
    refine wf_i (Wd := MW G q) [] [str r u.1, byt G u.1 (lnT K N).length u.2] (va_runV (As := [.int 0, .int 1]) (rest := []) ⟨hx, hb, hml, hown, hts⟩ (kX7_isThrown l G q E _ 0 1 _ (mThr E false 1)) (cwV 2 hts gX7_lineAt_X7_isThrown rfl rfl rfl (by decide +kernel) ⟨Nat.le_of_ble_eq_true rfl, Nat.le_of_ble_eq_true rfl⟩) (wrV (fr_mid [] [str r u.1, byt G u.1 (lnT K N).length u.2] hP) (fr_midD [] [str r u.1, byt G u.1 (lnT K N).length u.2] hD) hK 8 0 rfl rfl) rfl rfl hl.1 rfl (lv_room (Nat.le_of_ble_eq_true rfl)) dX7_lineAt_26 ⟨Nat.le_of_ble_eq_true rfl, Nat.le_of_ble_eq_true rfl⟩) hP hD hS hA (fun _ => rfl) (fun H locs hP hD hS => ?_)
    refine lv_if_eq (tgt := 37) hx hb dX7_lineAt_29 (by decide) (fun _ => ?_) (fun c_ => absurd (rfl : (0 : Int32) = 0) c_)
    refine lv_aload_n hx hb dX7_lineAt_37 rfl (lv_at hl 0 rfl) ?_
    refine lv_iload_n hx hb dX7_lineAt_38 rfl (lv_at hl 2 rfl) ?_
    subst hxi
    have h60 : (lnT K N).length ≤ 70 := Nat.le_trans (lnT_len K N) (by omega)
    refine ro_i (va_runV (As := [.int (nI i)]) (rest := []) ⟨hx, hb, hml, hown, hts⟩ (kJ0_charAt_5068e l G r u.1 (lnT K N).length i u.2 hi h60 hu.1) (cwV 1 hts gX7_lineAt_J0_charAt_5068e rfl rfl rfl (by decide +kernel) ⟨Nat.le_of_ble_eq_true rfl, Nat.le_of_ble_eq_true rfl⟩) (yV (hP.sub (ws' := [str r u.1, byt G u.1 (lnT K N).length u.2]) [17, 18] rfl) hS hK hZ 0 0 rfl rfl) rfl rfl hl.1 rfl (lv_room (Nat.le_of_ble_eq_true rfl)) dX7_lineAt_39 ⟨Nat.le_of_ble_eq_true rfl, Nat.le_of_ble_eq_true rfl⟩) ?_
    obtain ⟨k, hk9, ek⟩ := hu.1 i
    have e9 : u.2 i = ch := hu.2 i ch hc
    refine W.widen (k := 52) (n := 3500) (by decide) (by decide) ?_
    exact W.zret hx hb hr (by rw [ek]; exact (byt7 k hk9).2.2.2.2) (fun t ht _ => ⟨⟨_, sS E 7 0, rfl, congrArg (fun z => (z, sS E 7 0)) e9, by show va_P G.1 vwCl (MW G q (sS E 7 0)) t.heap; rw [ht]; exact hP.sub (ws' := MW G q (sS E 7 0)) [0, 1, 2, 3, 4, 5, 6, 7, 8, 9, 10, 11, 12, 13, 14, 15, 16] rfl⟩, hS.F ht⟩) hS.2.2 dX7_lineAt_42 hlocks
  | false =>
    refine lv_if_ne (tgt := 24) hx hb dX7_lineAt_17 (by decide) (fun c_ => absurd (show b2i false = 0 from rfl) c_) (fun _ => ?_)
    refine lv_iconst (v := 1) hx hb dX7_lineAt_20 (by decide) ?_
    refine lv_goto (tgt := 25) hx hb dX7_lineAt_21 (by decide) ?_
    refine lv_iconst (v := 1) hx hb dX7_lineAt_25 (by decide) ?_
    refine wf_i (Wd := MW G q) [] [str r u.1, byt G u.1 (lnT K N).length u.2] (va_runV (As := [.int 1, .int 1]) (rest := []) ⟨hx, hb, hml, hown, hts⟩ (kX7_isThrown l G q E _ 1 1 _ (mThr E true 1)) (cwV 2 hts gX7_lineAt_X7_isThrown rfl rfl rfl (by decide +kernel) ⟨Nat.le_of_ble_eq_true rfl, Nat.le_of_ble_eq_true rfl⟩) (wrV (fr_mid [] [str r u.1, byt G u.1 (lnT K N).length u.2] hP) (fr_midD [] [str r u.1, byt G u.1 (lnT K N).length u.2] hD) hK 8 0 rfl rfl) rfl rfl hl.1 rfl (lv_room (Nat.le_of_ble_eq_true rfl)) dX7_lineAt_26 ⟨Nat.le_of_ble_eq_true rfl, Nat.le_of_ble_eq_true rfl⟩) hP hD hS hA (fun _ => rfl) (fun H locs hP hD hS => ?_)
    refine lv_if_eq (tgt := 37) hx hb dX7_lineAt_29 (by decide) (fun c_ => absurd c_ (by decide : ¬ (1 : Int32) = 0)) (fun _ => ?_)
    refine lv_bipush (v := 45) hx hb dX7_lineAt_32 (by decide) ?_
    refine lv_goto (tgt := 42) hx hb dX7_lineAt_34 (by decide) ?_
    refine W.widen (k := 52) (n := 3500) (by decide) (by decide) ?_
    exact W.zret hx hb hr rfl (fun t ht _ => ⟨⟨_, sS E 7 1, rfl, rfl, by show va_P G.1 vwCl (MW G q (sS E 7 1)) t.heap; rw [ht]; exact hP.sub (ws' := MW G q (sS E 7 1)) [0, 1, 2, 3, 4, 5, 6, 7, 8, 9, 10, 11, 12, 13, 14, 15, 16] rfl⟩, hS.F ht⟩) hS.2.2 dX7_lineAt_42 hlocks
