def rmJ5_init_d00df : Room := { frames := 1, cells := 1, slots := 16, locals := 60 }
set_option maxHeartbeats 4000000 in
set_option maxRecDepth 100000 in
theorem kJ5_init_d00df (l : Launch) (G : GT) (q : Nat) (sz : Nat) : Met l yJ5_init_d00df wsJ5_init_d00df rmJ5_init_d00df (va_Pc [.ref q, .int 16] (zP G [(q, .inr (1, [.null, .int 0, .int 0, .int 0]))] sz)) (va_Qv (fun _ : Nat => True) (fun u t => va_P G.1 vwCl [bld q u 0, byt G u 16 zr] t.heap ∧ va_D (va_A [(q, .inr (1, [.null, .int 0, .int 0, .int 0]))] sz) [bld q u 0, byt G u 16 zr]) (va_A [(q, .inr (1, [.null, .int 0, .int 0, .int 0]))] sz)) 1 16 (va_A [(q, .inr (1, [.null, .int 0, .int 0, .int 0]))] sz) := by
  refine Met.ofW (cc := cJ5_init_d00df) (maxL := 2) (ret := none) (by decide) rfl ?_
  intro p e s mt args below meth c s₁ B hml hv
  obtain ⟨rfl, ⟨hsz, hP, hK, hD0⟩, hZ⟩ := hv
  have bx := bx_of B hml
  have hin : meth.name = "<init>" := (name_of_methodNamed B.named B.method).1
  subst hsz
  have hD := hD0.self (sz := s.heap.size)
  generalize hAe : va_A [(q, .inr (1, [.null, .int 0, .int 0, .int 0]))] s.heap.size = A at hD hZ ⊢
  have hA : ∀ q : Nat, s.heap.size ≤ q → A q := fun q h => by rw [← hAe]; exact Or.inr h
  have hS : va_S A s.heap s.heap [] := va_S.rf
  obtain ⟨hx, hb, hr, hts, hown, hml, hlocks⟩ := id bx
  have hl := lv_entry ([.ref q, .int 16]) (n := 2) (Nat.le_of_ble_eq_true rfl)
  rw [lg_entry_eq]
  generalize (lg_sl ([.ref q, .int 16]) ++ List.replicate (2 - (lg_sl ([.ref q, .int 16])).length) Slot.unset).toArray = ls at hl ⊢
  have hl : lv_has ls 2 [(0, .ref q), (1, .int 16)] := hl
  show W p l e rmJ5_init_d00df s mt _ below meth c s.heap [] 0 0 _ (F0 mt 0 ls [])
  refine lv_aload_n hx hb dJ5_init_d00df_0 rfl (lv_at hl 0 rfl) ?_
  refine W.objInit hx hb hown (w_mem hts 1 rfl) (w_mem hts 2 rfl) (w_mem hts 3 rfl) rfl (by rw [hml]; exact hl.1) rfl dJ5_init_d00df_1 (Nat.le_of_ble_eq_true rfl) (Nat.le_of_ble_eq_true rfl) ?_
  refine W.eq (g2 := F0 mt 4 ls []) rfl ?_
  refine va_gets hx hb hZ.1 hS hown (w_mem hts 4 rfl) (fun _ h9 => h9) dJ5_init_d00df_4 ?_
  refine lv_if_eq (tgt := 25) hx hb dJ5_init_d00df_7 (by decide) (fun c_ => absurd c_ (by decide : ¬ (1 : Int32) = 0)) (fun _ => ?_)
  refine lv_aload_n hx hb dJ5_init_d00df_10 rfl (lv_at hl 0 rfl) ?_
  refine lv_iload_n hx hb dJ5_init_d00df_11 rfl (lv_at hl 1 rfl) ?_
  refine va_newa (D := G.1) (atype := .byte) hx hb (w_mem hts 5 rfl) rfl hK.1 hP hD hS hA (N' := 16) (a0 := (16, .inl zr)) (fun _ => rfl) (by decide) (by decide) (Nat.le_of_ble_eq_true rfl) (Nat.le_of_ble_eq_true rfl) (Nat.le_of_ble_eq_true rfl) dJ5_init_d00df_12 (fun r cA H hK1 hP hD hS => ?_)
  have e9 := tyB hK1
  subst e9
  clear hK1
  have hP : va_P G.1 vwCl [(q, .inr (1, [.null, .int 0, .int 0, .int 0])), (r, .inl (G.2 4, 16, .inl zr))] H := hP
  have hD : va_D A [(q, .inr (1, [.null, .int 0, .int 0, .int 0])), (r, .inl (G.2 4, 16, .inl zr))] := hD
  refine va_put (D := G.1) (ci := 1) (v := .ref r) (ty := (.array .byte)) (C := RJ4) (T := TJ4) (N := 4) hx hb hts (by decide +kernel) tyJ4 tyJ4_ok nmJ4 hown hK.1 hP hD hS 0 rfl rfl 0 (by decide) (w_mem hts 6 rfl) (fun _ h9 => h9) rfl (by decide +kernel) rfl rfl (Nat.le_of_ble_eq_true rfl) dJ5_init_d00df_14 (fun H locs hP hD hS => ?_)
  have hP : va_P G.1 vwCl [(q, .inr (1, [.ref r, .int 0, .int 0, .int 0])), (r, .inl (G.2 4, 16, .inl zr))] H := hP
  have hD : va_D A [(q, .inr (1, [.ref r, .int 0, .int 0, .int 0])), (r, .inl (G.2 4, 16, .inl zr))] := hD
  refine lv_aload_n hx hb dJ5_init_d00df_17 rfl (lv_at hl 0 rfl) ?_
  refine lv_iconst (v := 0) hx hb dJ5_init_d00df_18 (by decide) ?_
  refine va_put (D := G.1) (ci := 1) (v := .int 0) (ty := .byte) (C := RJ4) (T := TJ4) (N := 4) hx hb hts (by decide +kernel) tyJ4 tyJ4_ok nmJ4 hown hK.1 hP hD hS 0 rfl rfl 1 (by decide) (w_mem hts 7 rfl) (fun _ h9 => h9) rfl (by decide +kernel) rfl rfl (Nat.le_of_ble_eq_true rfl) dJ5_init_d00df_19 (fun H locs hP hD hS => ?_)
  have hP : va_P G.1 vwCl [(q, .inr (1, [.ref r, .int 0, .int 0, .int 0])), (r, .inl (G.2 4, 16, .inl zr))] H := hP
  have hD : va_D A [(q, .inr (1, [.ref r, .int 0, .int 0, .int 0])), (r, .inl (G.2 4, 16, .inl zr))] := hD
  refine lv_goto (tgt := 38) hx hb dJ5_init_d00df_22 (by decide) ?_
  refine W.widen (k := 1) (n := 16) (by first | decide | omega) (by first | decide | omega) ?_
  exact W.vret hx hb hr (fun t ht _ => ⟨⟨r, rfl, trivial, by rw [ht]; exact hP, hD⟩, hS.F ht⟩) hS.2.2 dJ5_init_d00df_38 hlocks

def rmJ4_init_da8c8 : Room := { frames := 2, cells := 1, slots := 16, locals := 81 }
set_option maxHeartbeats 4000000 in
set_option maxRecDepth 100000 in
theorem kJ4_init_da8c8 (l : Launch) (G : GT) (q : Nat) (sz : Nat) : Met l yJ4_init_da8c8 wsJ4_init_da8c8 rmJ4_init_da8c8 (va_Pc [.ref q] (zP G [(q, .inr (1, [.null, .int 0, .int 0, .int 0]))] sz)) (va_Qv (fun _ : Nat => True) (fun u t => va_P G.1 vwCl [bld q u 0, byt G u 16 zr] t.heap ∧ va_D (va_A [(q, .inr (1, [.null, .int 0, .int 0, .int 0]))] sz) [bld q u 0, byt G u 16 zr]) (va_A [(q, .inr (1, [.null, .int 0, .int 0, .int 0]))] sz)) 1 16 (va_A [(q, .inr (1, [.null, .int 0, .int 0, .int 0]))] sz) := by
  refine Met.ofW (cc := cJ4_init_da8c8) (maxL := 1) (ret := none) (by decide) rfl ?_
  intro p e s mt args below meth c s₁ B hml hv
  obtain ⟨rfl, ⟨hsz, hP, hK, hD0⟩, hZ⟩ := hv
  have bx := bx_of B hml
  have hin : meth.name = "<init>" := (name_of_methodNamed B.named B.method).1
  subst hsz
  have hD := hD0.self (sz := s.heap.size)
  generalize hAe : va_A [(q, .inr (1, [.null, .int 0, .int 0, .int 0]))] s.heap.size = A at hD hZ ⊢
  have hA : ∀ q : Nat, s.heap.size ≤ q → A q := fun q h => by rw [← hAe]; exact Or.inr h
  have hS : va_S A s.heap s.heap [] := va_S.rf
  obtain ⟨hx, hb, hr, hts, hown, hml, hlocks⟩ := id bx
  have hl := lv_entry ([.ref q]) (n := 1) (Nat.le_of_ble_eq_true rfl)
  rw [lg_entry_eq]
  generalize (lg_sl ([.ref q]) ++ List.replicate (1 - (lg_sl ([.ref q])).length) Slot.unset).toArray = ls at hl ⊢
  have hl : lv_has ls 1 [(0, .ref q)] := hl
  show W p l e rmJ4_init_da8c8 s mt _ below meth c s.heap [] 0 0 _ (F0 mt 0 ls [])
  refine lv_aload_n hx hb dJ4_init_da8c8_0 rfl (lv_at hl 0 rfl) ?_
  refine lv_bipush (v := 16) hx hb dJ4_init_da8c8_1 (by decide) ?_
  refine j_v (Wd := fun u : Nat => [bld q u 0, byt G u 16 zr]) (wc := [(q, .inr (1, [.null, .int 0, .int 0, .int 0]))]) (wr := []) (va_runI (As := [.int 16]) (rest := []) ⟨hx, hb, hml, hown, hts⟩ (kJ5_init_d00df l G q _) (cwI 1 hts gJ4_init_da8c8_J5_init_d00df rfl rfl rfl (w_mem hts 3 rfl) (w_mem hts 1 rfl) (w_mem hts 2 rfl) rfl (by decide +kernel) ⟨Nat.le_of_ble_eq_true rfl, Nat.le_of_ble_eq_true rfl⟩) (zS hP hD hS hK hA hZ) rfl rfl hl.1 rfl (lv_room (Nat.le_of_ble_eq_true rfl)) dJ4_init_da8c8_3 ⟨Nat.le_of_ble_eq_true rfl, Nat.le_of_ble_eq_true rfl⟩) hP hD hS hA [0] [] rfl rfl (by decide) (by decide) (fun u H locs hu hP hD hS => ?_)
  have hP : va_P G.1 vwCl [(q, .inr (1, [.ref u, .int 0, .int 0, .int (nI 0)])), (u, .inl (G.2 4, 16, .inl zr))] H := hP
  have hD : va_D A [(q, .inr (1, [.ref u, .int 0, .int 0, .int (nI 0)])), (u, .inl (G.2 4, 16, .inl zr))] := hD
  refine W.widen (k := 1) (n := 16) (by first | decide | omega) (by first | decide | omega) ?_
  exact W.vret hx hb hr (fun t ht _ => ⟨⟨u, rfl, hu, by rw [ht]; exact hP, hD⟩, hS.F ht⟩) hS.2.2 dJ4_init_da8c8_6 hlocks

theorem in_wsX7_line_X7 : ∀ w ∈ u_ws RX7 TX7 24, w ∈ wsX7_line := by decide +kernel
def rmX7_line : Room := { frames := 7, cells := 52, slots := 3500, locals := 192 }
set_option maxHeartbeats 4000000 in
set_option maxRecDepth 100000 in
theorem kX7_line (l : Launch) (G : GT) (q : Nat → Nat) (C E : St) (K : Kn) (N : Nat) (sz : Nat) (hd : pX7_deduces C = some E) (hN : N ≤ 12) (e0 : E.1 0 = nI N) (e5 : E.1 5 = nI K.1.1) (e6 : E.1 6 = nI K.1.2) (hb5 : K.1.1 < 2 ^ 31) (hb6 : K.1.2 < 2 ^ 31) (e8 : ∀ f, f < N → E.2 8 f = K.2.1 f) (hk : ∀ f, f < N → (K.2.1 f = 45 ↔ knK K f = false)) (hL : lat K) : Met l yX7_line wsX7_line rmX7_line (va_Pc [.ref (q 0)] (zP G (MW G q C) sz)) (va_Qr (fun u : Nat × (Nat → Int32) => Asc u.2 ∧ TX (lnT K N) u.2) (fun u r t => va_P G.1 vwCl (MW G q E ++ [str r u.1, byt G u.1 (lnT K N).length u.2]) t.heap ∧ va_D (va_A (MW G q C) sz) (MW G q E ++ [str r u.1, byt G u.1 (lnT K N).length u.2])) (va_A (MW G q C) sz)) 52 3500 (va_A (MW G q C) sz) := by
  refine Met.ofW (cc := cX7_line) (maxL := 3) (ret := (some (.object "java/lang/String"))) (by decide) rfl ?_
  intro p e s mt args below meth c s₁ B hml hv
  obtain ⟨rfl, ⟨hsz, hP, hK, hD0⟩, hZ⟩ := hv
  have bx := bx_of B hml
  subst hsz
  have hD := hD0.self (sz := s.heap.size)
  generalize hAe : va_A (MW G q C) s.heap.size = A at hD hZ ⊢
  have hA : ∀ q : Nat, s.heap.size ≤ q → A q := fun q h => by rw [← hAe]; exact Or.inr h
  have hS : va_S A s.heap s.heap [] := va_S.rf
  obtain ⟨hx, hb, hr, hts, hown, hml, hlocks⟩ := id bx
  have hl := lv_entry ([.ref (q 0)]) (n := 3) (Nat.le_of_ble_eq_true rfl)
  rw [lg_entry_eq]
  generalize (lg_sl ([.ref (q 0)]) ++ List.replicate (3 - (lg_sl ([.ref (q 0)])).length) Slot.unset).toArray = ls at hl ⊢
  have hl : lv_has ls 3 [(0, .ref (q 0))] := hl
  show W p l e rmX7_line s mt _ below meth c s.heap [] 0 0 _ (F0 mt 0 ls [])
  refine lv_aload_n hx hb dX7_line_0 rfl (lv_at hl 0 rfl) ?_
  refine wr_v (Wd := MW G q) (va_runV (As := []) (rest := []) ⟨hx, hb, hml, hown, hts⟩ (kX7_deduces l G q C _ E hd) (cwV 0 hts gX7_line_X7_deduces rfl rfl rfl (by decide +kernel) ⟨Nat.le_of_ble_eq_true rfl, Nat.le_of_ble_eq_true rfl⟩) (wrV hP hD hK 8 0 rfl rfl) rfl rfl hl.1 rfl (lv_room (Nat.le_of_ble_eq_true rfl)) dX7_line_1 ⟨Nat.zero_le _, Nat.zero_le _⟩) hD hS hA (fun _ => rfl) (fun H locs hP hD hS => ?_)
  refine va_new (D := G.1) (ci := 1) (fs := [.null, .int 0, .int 0, .int 0]) (C := RJ4) (T := TJ4) (N := 4) hx hb hts (by decide +kernel) tyJ4 tyJ4_ok hown (w_mem hts 1 rfl) (w_mem hts 2 rfl) (w_mem hts 3 rfl) hK.1 hP hD hS hA rfl (fun j hj => by rcases (show j = 0 ∨ j = 1 ∨ j = 2 ∨ j = 3 by omega) with rfl | rfl | rfl | rfl <;> rfl) (Nat.le_of_ble_eq_true rfl) (Nat.le_of_ble_eq_true rfl) dX7_line_4 (fun qb H hP hD hS => ?_)
  obtain ⟨QQ, hQQ⟩ : ∃ QQ, QQ = MQ below (va_Qr (fun u : Nat × (Nat → Int32) => Asc u.2 ∧ TX (lnT K N) u.2) (fun u r t => va_P G.1 vwCl (MW G q E ++ [str r u.1, byt G u.1 (lnT K N).length u.2]) t.heap ∧ va_D (A) (MW G q E ++ [str r u.1, byt G u.1 (lnT K N).length u.2])) (A)) #[Value.ref (q 0)] s 52 3500 A := ⟨_, rfl⟩
  have key : ∀ d f, f + d = N → ∀ (b m : Nat) (a : Nat → Int32) (H : Heap) (locs : List Loc) (ls : Array Slot), cp m → (lnT K f).length ≤ m → Asc a → TX (lnT K f) a → va_P G.1 vwCl (MW G q E ++ [bld qb b (lnT K f).length, byt G b m a]) H → va_D A (MW G q E ++ [bld qb b (lnT K f).length, byt G b m a]) → va_S A s.heap H locs → lv_has ls 3 [(2, .int (nI f)), (1, .ref qb), (0, .ref (q 0))] → W p l e rmX7_line s mt #[.ref (q 0)] below meth c H locs (2 + 4 * f) (20 + 280 * f) QQ (F0 mt 14 ls []) := by
    intro d
    induction d with
    | zero =>
      intro f hfd b m a H locs ls hm hn ha hT hP hD hS hl
      have hfN : f = N := by omega
      clear hfd
      subst hfN
      refine lv_iload_n hx hb dX7_line_14 rfl (lv_at hl 0 rfl) ?_
      refine lv_aload_n hx hb dX7_line_15 rfl (lv_at hl 2 rfl) ?_
      refine va_get (D := G.1) (ci := 8) (v := .int (E.1 0)) (C := RX7) (T := TX7) (N := 24) hx hb hts in_wsX7_line_X7 hown hK.1 hP 0 rfl rfl 16 (by decide) (w_mem hts 4 rfl) (fun _ h9 => h9) rfl dX7_line_16 ?_
      refine lv_icmp_ge (tgt := 106) hx hb dX7_line_19 (by decide) (fun _ => ?_) (fun c_ => absurd (by rw [e0]; exact nleI (by omega) (by omega) (Nat.le_refl _)) c_)
      refine lv_aload_n hx hb dX7_line_106 rfl (lv_at hl 1 rfl) ?_
      have h70 := cp_70 hm
      refine j_r (Wd := fun (u : Nat × (Nat → Int32)) (r : Nat) => [str r u.1, byt G u.1 (lnT K f).length u.2]) (wc := [bld qb b (lnT K f).length, byt G b m a]) (wr := MW G q E) (va_runV (As := []) (rest := []) ⟨hx, hb, hml, hown, hts⟩ (kJ4_toString_0e30d l G qb b (lnT K f).length m a _ ha hn h70.2) (cwV 0 hts gX7_line_J4_toString_0e30d rfl rfl rfl (by decide +kernel) ⟨Nat.le_of_ble_eq_true rfl, Nat.le_of_ble_eq_true rfl⟩) (zV (hP.sub (ws' := [bld qb b (lnT K f).length, byt G b m a]) [17, 18] rfl) (hD.sub (ws' := [bld qb b (lnT K f).length, byt G b m a]) [17, 18] (by decide) rfl) hS hK hA hZ 1 0 rfl rfl) rfl rfl hl.1 rfl (lv_room (Nat.le_of_ble_eq_true rfl)) dX7_line_107 ⟨(by show 2 + 4 * f + 2 ≤ 52; omega), (by show 20 + 280 * f + 74 ≤ 3500; omega)⟩) hP hD hS hA [17, 18] [0, 1, 2, 3, 4, 5, 6, 7, 8, 9, 10, 11, 12, 13, 14, 15, 16] rfl rfl (by decide) (by decide) (fun u r H locs hu hP hD hS => ?_)
      refine W.widen (k := 52) (n := 3500) (by omega) (by omega) ?_
      exact hQQ ▸ W.aret hx hb hr (Or.inl ⟨_, rfl⟩) (Or.inr ⟨_, rfl⟩) (fun t ht _ => ⟨⟨u, _, rfl, ⟨hu.1, fun j x hj => (hu.2 j (List.getElem?_eq_some_iff.mp hj).1).trans (hT j x hj)⟩, by rw [ht]; exact hP, hD⟩, hS.F ht⟩) hS.2.2 dX7_line_110 hlocks
    | succ d ih0 =>
      intro f hfd
      have hf : f < N := by omega
      have ih : ∀ g, g + d = N → ∀ (b m : Nat) (a : Nat → Int32) (H : Heap) (locs : List Loc) (ls : Array Slot), cp m → (lnT K g).length ≤ m → Asc a → TX (lnT K g) a → va_P G.1 vwCl (MW G q E ++ [bld qb b (lnT K g).length, byt G b m a]) H → va_D A (MW G q E ++ [bld qb b (lnT K g).length, byt G b m a]) → va_S A s.heap H locs → lv_has ls 3 [(2, .int (nI g)), (1, .ref qb), (0, .ref (q 0))] → W p l e rmX7_line s mt #[.ref (q 0)] below meth c H locs (2 + 4 * g) (20 + 280 * g) QQ (F0 mt 14 ls []) := ih0
      have hlen := lnT_len K f
      have L96 : ∀ x, x < 128 → ∀ (b m : Nat) (a : Nat → Int32) (t : List Int32) (H : Heap) (locs : List Loc) (ls : Array Slot), cp m → t.length ≤ m → Asc a → TX t a → t.length ≤ 5 * f + 4 → t ++ [nI x] = lnT K (f + 1) → va_P G.1 vwCl (MW G q E ++ [bld qb b t.length, byt G b m a]) H → va_D A (MW G q E ++ [bld qb b t.length, byt G b m a]) → va_S A s.heap H locs → lv_has ls 3 [(2, .int (nI f)), (1, .ref qb), (0, .ref (q 0))] → W p l e rmX7_line s mt #[.ref (q 0)] below meth c H locs (5 + 4 * f) (230 + 280 * f) QQ (F0 mt 96 ls [.int (nI x), .ref qb]) := by
        intro x hx9 b m a t H locs ls hm hn ha hT h5 he hP hD hS hl
        refine j_r (Wd := fun (u : Nat × Nat × (Nat → Int32)) (_ : Nat) => [bld qb u.1 (t.length + 1), byt G u.1 u.2.1 u.2.2]) (wc := [bld qb b (t.length), byt G b m a]) (wr := MW G q E) (va_runV (As := [.int (nI x)]) (rest := []) ⟨hx, hb, hml, hown, hts⟩ (kJ4_append_cf468 l G qb b t.length m x a _ ha hm hx9 hn (by omega)) (cwV 1 hts gX7_line_J4_append_cf468 rfl rfl rfl (by decide +kernel) ⟨Nat.le_of_ble_eq_true rfl, Nat.le_of_ble_eq_true rfl⟩) (zV (hP.sub (ws' := [bld qb b (t.length), byt G b m a]) [17, 18] rfl) (hD.sub (ws' := [bld qb b (t.length), byt G b m a]) [17, 18] (by decide) rfl) hS hK hA hZ 1 0 rfl rfl) rfl rfl hl.1 rfl (lv_room (Nat.le_of_ble_eq_true rfl)) dX7_line_96 ⟨(by show 5 + 4 * f + 1 ≤ 52; omega), (by show 230 + 280 * f + 70 ≤ 3500; omega)⟩) hP hD hS hA [17, 18] [0, 1, 2, 3, 4, 5, 6, 7, 8, 9, 10, 11, 12, 13, 14, 15, 16] rfl rfl (by decide) (by decide) (fun u r H locs hu hP hD hS => ?_)
        obtain ⟨b2, m2, a2⟩ := u
        obtain ⟨g1, g2, g3, g4, g5⟩ : cp m2 ∧ t.length + 1 ≤ m2 ∧ Asc a2 ∧ a2 t.length = nI x ∧ ∀ i, i < t.length → a2 i = a i := hu
        refine lv_pop hx hb dX7_line_99 rfl ?_
        refine lv_iinc (v := nI (f + 1)) (lv' := [(2, .int (nI (f + 1))), (1, .ref qb), (0, .ref (q 0))]) hx hb dX7_line_100 hl (k := 0) rfl (nI_1 f) (by decide) rfl (fun ls hl => ?_)
        refine lv_goto (tgt := 14) hx hb dX7_line_103 (by decide) ?_
        have e9 : t.length + 1 = (lnT K (f + 1)).length := by rw [← he, List.length_append]; rfl
        rw [e9] at hP hD g2
        exact W.widen (k := 2 + 4 * (f + 1)) (n := 20 + 280 * (f + 1)) (by omega) (by omega) (ih (f + 1) (by omega) b2 m2 a2 _ _ _ g1 g2 g3 (by rw [← he]; exact TX_app hT g5 g4) hP hD hS hl)
      have L61 : ∀ (b m : Nat) (a : Nat → Int32) (t : List Int32) (H : Heap) (locs : List Loc) (ls : Array Slot), cp m → t.length ≤ m → Asc a → TX t a → t.length ≤ 5 * f + 4 → t ++ [(if knK K f then (if K.1.1.testBit f then 43 else 45) else 63)] = lnT K (f + 1) → va_P G.1 vwCl (MW G q E ++ [bld qb b t.length, byt G b m a]) H → va_D A (MW G q E ++ [bld qb b t.length, byt G b m a]) → va_S A s.heap H locs → lv_has ls 3 [(2, .int (nI f)), (1, .ref qb), (0, .ref (q 0))] → W p l e rmX7_line s mt #[.ref (q 0)] below meth c H locs (5 + 4 * f) (230 + 280 * f) QQ (F0 mt 61 ls []) := by
        intro b m a t H locs ls hm hn ha hT h5 he hP hD hS hl
        refine lv_aload_n hx hb dX7_line_61 rfl (lv_at hl 1 rfl) ?_
        refine lv_aload_n hx hb dX7_line_62 rfl (lv_at hl 2 rfl) ?_
        refine va_get (D := G.1) (ci := 8) (v := .int (E.1 5)) (C := RX7) (T := TX7) (N := 24) hx hb hts in_wsX7_line_X7 hown hK.1 hP 0 rfl rfl 21 (by decide) (w_mem hts 6 rfl) (fun _ h9 => h9) rfl dX7_line_63 ?_
        refine lv_iload_n hx hb dX7_line_66 rfl (lv_at hl 0 rfl) ?_
        rw [e5]
        refine ro_i (va_runS (As := [.int (nI K.1.1), .int (nI f)]) (rest := [.ref qb]) ⟨hx, hb, hml, hown, hts⟩ (kX7_has l G q E _ _ _ (mHas E hb5 (by omega))) (va_cwS 2 hts gX7_line_X7_has rfl rfl rfl (by decide +kernel) ⟨Nat.le_of_ble_eq_true rfl, Nat.le_of_ble_eq_true rfl⟩) (roS (hP.sub (ws' := MW G q E) [0, 1, 2, 3, 4, 5, 6, 7, 8, 9, 10, 11, 12, 13, 14, 15, 16] rfl) hK) rfl rfl hl.1 rfl (lv_room (Nat.le_of_ble_eq_true rfl)) dX7_line_67 ⟨by show 5 + 4 * f + 0 ≤ 52; omega, by show 230 + 280 * f + 0 ≤ 3500; omega⟩) ?_
        cases z5 : K.1.1.testBit f with
        | true =>
          rw [z5] at he
          refine lv_if_eq (tgt := 78) hx hb dX7_line_70 (by decide) (fun c_ => absurd c_ (show ¬ b2i true = 0 by decide)) (fun _ => ?_)
          refine lv_bipush (v := 43) hx hb dX7_line_73 (by decide) ?_
          refine lv_goto (tgt := 96) hx hb dX7_line_75 (by decide) ?_
          exact L96 43 (by decide) b m a t _ _ _ hm hn ha hT h5 (by rw [← he]; congr 2; unfold knK; rw [z5]; rfl) hP hD hS hl
        | false =>
          rw [z5] at he
          refine lv_if_eq (tgt := 78) hx hb dX7_line_70 (by decide) (fun _ => ?_) (fun c_ => absurd (show b2i false = 0 from rfl) c_)
          refine lv_aload_n hx hb dX7_line_78 rfl (lv_at hl 2 rfl) ?_
          refine va_get (D := G.1) (ci := 8) (v := .int (E.1 6)) (C := RX7) (T := TX7) (N := 24) hx hb hts in_wsX7_line_X7 hown hK.1 hP 0 rfl rfl 22 (by decide) (w_mem hts 7 rfl) (fun _ h9 => h9) rfl dX7_line_79 ?_
          refine lv_iload_n hx hb dX7_line_82 rfl (lv_at hl 0 rfl) ?_
          rw [e6]
          refine ro_i (va_runS (As := [.int (nI K.1.2), .int (nI f)]) (rest := [.ref qb]) ⟨hx, hb, hml, hown, hts⟩ (kX7_has l G q E _ _ _ (mHas E hb6 (by omega))) (va_cwS 2 hts gX7_line_X7_has rfl rfl rfl (by decide +kernel) ⟨Nat.le_of_ble_eq_true rfl, Nat.le_of_ble_eq_true rfl⟩) (roS (hP.sub (ws' := MW G q E) [0, 1, 2, 3, 4, 5, 6, 7, 8, 9, 10, 11, 12, 13, 14, 15, 16] rfl) hK) rfl rfl hl.1 rfl (lv_room (Nat.le_of_ble_eq_true rfl)) dX7_line_83 ⟨by show 5 + 4 * f + 0 ≤ 52; omega, by show 230 + 280 * f + 0 ≤ 3500; omega⟩) ?_
          cases z6 : K.1.2.testBit f with
          | true =>
            refine lv_if_eq (tgt := 94) hx hb dX7_line_86 (by decide) (fun c_ => absurd c_ (show ¬ b2i true = 0 by decide)) (fun _ => ?_)
            refine lv_bipush (v := 45) hx hb dX7_line_89 (by decide) ?_
            refine lv_goto (tgt := 96) hx hb dX7_line_91 (by decide) ?_
            exact L96 45 (by decide) b m a t _ _ _ hm hn ha hT h5 (by rw [← he]; congr 2; unfold knK; rw [z5, z6]; rfl) hP hD hS hl
          | false =>
            refine lv_if_eq (tgt := 94) hx hb dX7_line_86 (by decide) (fun _ => ?_) (fun c_ => absurd (show b2i false = 0 from rfl) c_)
            refine lv_bipush (v := 63) hx hb dX7_line_94 (by decide) ?_
            exact L96 63 (by decide) b m a t _ _ _ hm hn ha hT h5 (by rw [← he]; congr 2; unfold knK; rw [z5, z6]; rfl) hP hD hS hl
      have L33 : ∀ (b m : Nat) (a : Nat → Int32) (t : List Int32) (H : Heap) (locs : List Loc) (ls : Array Slot), cp m → t.length ≤ m → Asc a → TX t a → t.length ≤ 5 * f + 1 → t ++ (decL f ++ (if knK K f then [K.2.1 f, if K.1.1.testBit f then 43 else 45] else [63])) = lnT K (f + 1) → va_P G.1 vwCl (MW G q E ++ [bld qb b t.length, byt G b m a]) H → va_D A (MW G q E ++ [bld qb b t.length, byt G b m a]) → va_S A s.heap H locs → lv_has ls 3 [(2, .int (nI f)), (1, .ref qb), (0, .ref (q 0))] → W p l e rmX7_line s mt #[.ref (q 0)] below meth c H locs (3 + 4 * f) (90 + 280 * f) QQ (F0 mt 33 ls []) := by
        intro b m a t H locs ls hm hn ha hT h5 he hP hD hS hl
        have hd9 := dgs_le f
        refine lv_aload_n hx hb dX7_line_33 rfl (lv_at hl 1 rfl) ?_
        refine lv_iload_n hx hb dX7_line_34 rfl (lv_at hl 0 rfl) ?_
        refine j_r (Wd := fun (u : Nat × Nat × (Nat → Int32)) (_ : Nat) => [bld qb u.1 (t.length + dgs f), byt G u.1 u.2.1 u.2.2]) (wc := [bld qb b (t.length), byt G b m a]) (wr := MW G q E) (va_runV (As := [.int (nI f)]) (rest := []) ⟨hx, hb, hml, hown, hts⟩ (kJ4_append_bf812 l G qb b t.length m f a _ ha hm (by omega) hn (by omega)) (cwV 1 hts gX7_line_J4_append_bf812 rfl rfl rfl (by decide +kernel) ⟨Nat.le_of_ble_eq_true rfl, Nat.le_of_ble_eq_true rfl⟩) (zV (hP.sub (ws' := [bld qb b (t.length), byt G b m a]) [17, 18] rfl) (hD.sub (ws' := [bld qb b (t.length), byt G b m a]) [17, 18] (by decide) rfl) hS hK hA hZ 1 0 rfl rfl) rfl rfl hl.1 rfl (lv_room (Nat.le_of_ble_eq_true rfl)) dX7_line_35 ⟨(by show 3 + 4 * f + 1 ≤ 52; omega), (by show 90 + 280 * f + 70 ≤ 3500; omega)⟩) hP hD hS hA [17, 18] [0, 1, 2, 3, 4, 5, 6, 7, 8, 9, 10, 11, 12, 13, 14, 15, 16] rfl rfl (by decide) (by decide) (fun u r H locs hu hP hD hS => ?_)
        obtain ⟨b2, m2, a2⟩ := u
        obtain ⟨g1, g2, g3, a1, g5, g6⟩ : cp m2 ∧ t.length + dgs f ≤ m2 ∧ Asc a2 ∧ ∃ a1 : Nat → Int32, (∀ i, i < t.length → a1 i = a i) ∧ a2 = gcs a1 (t.length + dgs f) f := hu
        refine lv_pop hx hb dX7_line_38 rfl ?_
        have g4 : TX (t ++ decL f) a2 := by rw [g6]; exact TX_dig hT g5 (by omega)
        have e9 : t.length + dgs f = (t ++ decL f).length := by rw [List.length_append, decL_len]
        rw [e9] at hP hD g2
        refine lv_aload_n hx hb dX7_line_39 rfl (lv_at hl 2 rfl) ?_
        refine va_get (D := G.1) (ci := 8) (v := .ref (q 9)) (C := RX7) (T := TX7) (N := 24) hx hb hts in_wsX7_line_X7 hown hK.1 hP 0 rfl rfl 8 (by decide) (w_mem hts 5 rfl) (fun _ h9 => h9) rfl dX7_line_40 ?_
        refine lv_iload_n hx hb dX7_line_43 rfl (lv_at hl 0 rfl) ?_
        refine va_cald (D := G.1) hx hb hK.1 hP 9 1 rfl rfl (vp_in_nI (by omega) (by decide)) dX7_line_44 ?_
        rw [nI_clamp (n := f) (by omega), e8 f hf]
        refine lv_bipush (v := 45) hx hb dX7_line_45 (by decide) ?_
        by_cases zk : K.2.1 f = 45
        · have zz := (hk f hf).mp zk
          rw [zz] at he
          refine lv_icmp_eq (tgt := 61) hx hb dX7_line_47 (by decide) (fun _ => ?_) (fun c_ => absurd zk c_)
          refine W.widen (k := 5 + 4 * f) (n := 230 + 280 * f) (by omega) (by omega) ?_
          exact L61 b2 m2 a2 (t ++ decL f) _ _ _ g1 g2 g3 g4 (by rw [List.length_append, decL_len]; omega) (by rw [← he, zz, List.append_assoc]; rfl) hP hD hS hl
        · have zz : knK K f = true := by
            cases z : knK K f with
            | true => rfl
            | false => exact absurd ((hk f hf).mpr z) zk
          rw [zz] at he
          refine lv_icmp_eq (tgt := 61) hx hb dX7_line_47 (by decide) (fun c_ => absurd c_ zk) (fun _ => ?_)
          obtain ⟨kx, hkx, ekx⟩ := hL f
          have e8 : ∀ f, f < N → E.2 8 f = K.2.1 f := e8
          refine lv_aload_n hx hb dX7_line_50 rfl (lv_at hl 1 rfl) ?_
          refine lv_aload_n hx hb dX7_line_51 rfl (lv_at hl 2 rfl) ?_
          refine va_get (D := G.1) (ci := 8) (v := .ref (q 9)) (C := RX7) (T := TX7) (N := 24) hx hb hts in_wsX7_line_X7 hown hK.1 hP 0 rfl rfl 8 (by decide) (w_mem hts 5 rfl) (fun _ h9 => h9) rfl dX7_line_52 ?_
          refine lv_iload_n hx hb dX7_line_55 rfl (lv_at hl 0 rfl) ?_
          refine va_cald (D := G.1) hx hb hK.1 hP 9 1 rfl rfl (vp_in_nI (by omega) (by decide)) dX7_line_56 ?_
          rw [nI_clamp (n := f) (by omega), e8 f hf]
          rw [ekx]
          refine j_r (Wd := fun (u : Nat × Nat × (Nat → Int32)) (_ : Nat) => [bld qb u.1 ((t ++ decL f).length + 1), byt G u.1 u.2.1 u.2.2]) (wc := [bld qb b2 (t ++ decL f).length, byt G b2 m2 a2]) (wr := MW G q E) (va_runV (As := [.int (nI kx)]) (rest := []) ⟨hx, hb, hml, hown, hts⟩ (kJ4_append_cf468 l G qb b2 (t ++ decL f).length m2 kx a2 _ g3 g1 hkx g2 (by rw [List.length_append, decL_len]; omega)) (cwV 1 hts gX7_line_J4_append_cf468 rfl rfl rfl (by decide +kernel) ⟨Nat.le_of_ble_eq_true rfl, Nat.le_of_ble_eq_true rfl⟩) (zV (hP.sub (ws' := [bld qb b2 (t ++ decL f).length, byt G b2 m2 a2]) [17, 18] rfl) (hD.sub (ws' := [bld qb b2 (t ++ decL f).length, byt G b2 m2 a2]) [17, 18] (by decide) rfl) hS hK hA hZ 1 0 rfl rfl) rfl rfl hl.1 rfl (lv_room (Nat.le_of_ble_eq_true rfl)) dX7_line_57 ⟨(by show 3 + 4 * f + 1 + 1 ≤ 52; omega), (by show 90 + 280 * f + 70 + 70 ≤ 3500; omega)⟩) hP hD hS hA [17, 18] [0, 1, 2, 3, 4, 5, 6, 7, 8, 9, 10, 11, 12, 13, 14, 15, 16] rfl rfl (by decide) (by decide) (fun u r H locs hu hP hD hS => ?_)
          obtain ⟨b3, m3, a3⟩ := u
          obtain ⟨i1, i2, i3, i4, i5⟩ : cp m3 ∧ (t ++ decL f).length + 1 ≤ m3 ∧ Asc a3 ∧ a3 (t ++ decL f).length = nI kx ∧ ∀ i, i < (t ++ decL f).length → a3 i = a2 i := hu
          refine lv_pop hx hb dX7_line_60 rfl ?_
          have e9 : (t ++ decL f).length + 1 = (t ++ decL f ++ [K.2.1 f]).length := by rw [List.length_append (bs := [K.2.1 f])]; rfl
          rw [e9] at hP hD i2
          refine W.widen (k := 5 + 4 * f) (n := 230 + 280 * f) (by omega) (by omega) ?_
          exact L61 b3 m3 a3 (t ++ decL f ++ [K.2.1 f]) _ _ _ i1 i2 i3 (TX_app g4 i5 (i4.trans ekx.symm)) (by rw [List.length_append, List.length_append, decL_len]; simp only [List.length_singleton]; omega) (by rw [← he, zz, List.append_assoc, List.append_assoc]; rfl) hP hD hS hl
      intro b m a H locs ls hm hn ha hT hP hD hS hl
      have he : lnT K f ++ lnF K f = lnT K (f + 1) := rfl
      rw [lnF_split] at he
      refine lv_iload_n hx hb dX7_line_14 rfl (lv_at hl 0 rfl) ?_
      refine lv_aload_n hx hb dX7_line_15 rfl (lv_at hl 2 rfl) ?_
      refine va_get (D := G.1) (ci := 8) (v := .int (E.1 0)) (C := RX7) (T := TX7) (N := 24) hx hb hts in_wsX7_line_X7 hown hK.1 hP 0 rfl rfl 16 (by decide) (w_mem hts 4 rfl) (fun _ h9 => h9) rfl dX7_line_16 ?_
      refine lv_icmp_ge (tgt := 106) hx hb dX7_line_19 (by decide) (fun c_ => absurd c_ (by rw [e0]; exact nleN (by omega) (by omega) hf)) (fun _ => ?_)
      refine lv_iload_n hx hb dX7_line_22 rfl (lv_at hl 0 rfl) ?_
      by_cases z : 0 < f
      · rw [if_pos z] at he
        refine lv_if_le (tgt := 33) hx hb dX7_line_23 (by decide) (fun c_ => absurd c_ (nI_nle z (by omega))) (fun _ => ?_)
        refine lv_aload_n hx hb dX7_line_26 rfl (lv_at hl 1 rfl) ?_
        refine lv_bipush (v := nI 32) hx hb dX7_line_27 (by decide) ?_
        refine j_r (Wd := fun (u : Nat × Nat × (Nat → Int32)) (_ : Nat) => [bld qb u.1 ((lnT K f).length + 1), byt G u.1 u.2.1 u.2.2]) (wc := [bld qb b ((lnT K f).length), byt G b m a]) (wr := MW G q E) (va_runV (As := [.int (nI 32)]) (rest := []) ⟨hx, hb, hml, hown, hts⟩ (kJ4_append_cf468 l G qb b (lnT K f).length m 32 a _ ha hm (by decide) hn (by omega)) (cwV 1 hts gX7_line_J4_append_cf468 rfl rfl rfl (by decide +kernel) ⟨Nat.le_of_ble_eq_true rfl, Nat.le_of_ble_eq_true rfl⟩) (zV (hP.sub (ws' := [bld qb b ((lnT K f).length), byt G b m a]) [17, 18] rfl) (hD.sub (ws' := [bld qb b ((lnT K f).length), byt G b m a]) [17, 18] (by decide) rfl) hS hK hA hZ 1 0 rfl rfl) rfl rfl hl.1 rfl (lv_room (Nat.le_of_ble_eq_true rfl)) dX7_line_29 ⟨(by show 2 + 4 * f + 1 ≤ 52; omega), (by show 20 + 280 * f + 70 ≤ 3500; omega)⟩) hP hD hS hA [17, 18] [0, 1, 2, 3, 4, 5, 6, 7, 8, 9, 10, 11, 12, 13, 14, 15, 16] rfl rfl (by decide) (by decide) (fun u r H locs hu hP hD hS => ?_)
        obtain ⟨b2, m2, a2⟩ := u
        obtain ⟨g1, g2, g3, g4, g5⟩ : cp m2 ∧ (lnT K f).length + 1 ≤ m2 ∧ Asc a2 ∧ a2 (lnT K f).length = nI 32 ∧ ∀ i, i < (lnT K f).length → a2 i = a i := hu
        refine lv_pop hx hb dX7_line_32 rfl ?_
        have e9 : (lnT K f).length + 1 = (lnT K f ++ [32]).length := by rw [List.length_append]; rfl
        rw [e9] at hP hD g2
        refine W.widen (k := 3 + 4 * f) (n := 90 + 280 * f) (by omega) (by omega) ?_
        exact L33 b2 m2 a2 (lnT K f ++ [32]) _ _ _ g1 g2 g3 (TX_app hT g5 g4) (by rw [List.length_append]; simp only [List.length_singleton]; omega) (by rw [← he, List.append_assoc]) hP hD hS hl
      · rw [if_neg z, List.nil_append] at he
        refine lv_if_le (tgt := 33) hx hb dX7_line_23 (by decide) (fun _ => ?_) (fun c_ => absurd (show nI f ≤ 0 by rw [show f = 0 by omega]; decide) c_)
        refine W.widen (k := 3 + 4 * f) (n := 90 + 280 * f) (by omega) (by omega) ?_
        exact L33 b m a (lnT K f) _ _ _ hm hn ha hT (by omega) he hP hD hS hl
  show W p l e rmX7_line s mt #[.ref (q 0)] below meth c H _ _ _ (MQ below (va_Qr (fun u : Nat × (Nat → Int32) => Asc u.2 ∧ TX (lnT K N) u.2) (fun u r t => va_P G.1 vwCl (MW G q E ++ [str r u.1, byt G u.1 (lnT K N).length u.2]) t.heap ∧ va_D (A) (MW G q E ++ [str r u.1, byt G u.1 (lnT K N).length u.2])) (A)) #[Value.ref (q 0)] s 52 3500 A) _
  rw [← hQQ]
  have hP : va_P G.1 vwCl (MW G q E ++ [(qb, .inr (1, [.null, .int 0, .int 0, .int 0]))]) H := hP
  have hD : va_D A (MW G q E ++ [(qb, .inr (1, [.null, .int 0, .int 0, .int 0]))]) := hD
  refine lv_dup hx hb dX7_line_7 rfl ?_
  refine j_v (Wd := fun u : Nat => [bld qb u 0, byt G u 16 zr]) (wc := [(qb, .inr (1, [.null, .int 0, .int 0, .int 0]))]) (wr := MW G q E) (va_runI (As := []) (rest := [.ref qb]) ⟨hx, hb, hml, hown, hts⟩ (kJ4_init_da8c8 l G qb _) (cwI 0 hts gX7_line_J4_init_da8c8 rfl rfl rfl (w_mem hts 3 rfl) (w_mem hts 53 rfl) (w_mem hts 54 rfl) rfl (by decide +kernel) ⟨Nat.le_of_ble_eq_true rfl, Nat.le_of_ble_eq_true rfl⟩) (zS (hP.sub (ws' := [(qb, .inr (1, [.null, .int 0, .int 0, .int 0]))]) [17] rfl) (hD.sub (ws' := [(qb, .inr (1, [.null, .int 0, .int 0, .int 0]))]) [17] (by decide) rfl) hS hK hA hZ) rfl rfl hl.1 rfl (lv_room (Nat.le_of_ble_eq_true rfl)) dX7_line_8 ⟨Nat.le_of_ble_eq_true rfl, Nat.le_of_ble_eq_true rfl⟩) hP hD hS hA [17] [0, 1, 2, 3, 4, 5, 6, 7, 8, 9, 10, 11, 12, 13, 14, 15, 16] rfl rfl (by decide) (by decide) (fun u H locs hu hP hD hS => ?_)
  refine lv_astore_n (lv' := [(1, .ref qb), (0, .ref (q 0))]) hx hb dX7_line_11 rfl hl (by decide) rfl (fun ls hl => ?_)
  refine lv_iconst (v := 0) hx hb dX7_line_12 (by decide) ?_
  refine lv_istore_n (lv' := [(2, .int 0), (1, .ref qb), (0, .ref (q 0))]) hx hb dX7_line_13 rfl hl (by decide) rfl (fun ls hl => ?_)
  refine W.widen (k := 2) (n := 20) (by decide) (by decide) ?_
  exact key N 0 (Nat.zero_add N) u 16 zr _ _ _ (Or.inl rfl) (Nat.zero_le _) asc_zr (fun j x hj => by cases hj) hP hD hS hl
