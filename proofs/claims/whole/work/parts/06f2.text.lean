def rmJ5_getValue_6d5f1 : Room := { frames := 1, cells := 0, slots := 0, locals := 60 }
set_option maxHeartbeats 4000000 in
set_option maxRecDepth 100000 in
theorem kJ5_getValue_6d5f1 (l : Launch) (G : GT) (q b n m : Nat) (a : Nat → Int32) : Met l yJ5_getValue_6d5f1 wsJ5_getValue_6d5f1 rmJ5_getValue_6d5f1 (va_Pc [.ref q] (yP G [bld q b n, byt G b m a])) (Sr b) 0 0 (fun _ => False) := by
  refine Met.ofW (cc := cJ5_getValue_6d5f1) (maxL := 1) (ret := (some (.array .byte))) (by decide) rfl ?_
  intro p e s mt args below meth c s₁ B hml hv
  obtain ⟨rfl, ⟨hP, hK⟩, hZ⟩ := hv
  have bx := bx_of B hml
  have hS : va_S (fun _ => False) s.heap s.heap [] := va_S.rf
  obtain ⟨hx, hb, hr, hts, hown, hml, hlocks⟩ := id bx
  have hl := lv_entry ([.ref q]) (n := 1) (Nat.le_of_ble_eq_true rfl)
  rw [lg_entry_eq]
  generalize (lg_sl ([.ref q]) ++ List.replicate (1 - (lg_sl ([.ref q])).length) Slot.unset).toArray = ls at hl ⊢
  have hl : lv_has ls 1 [(0, .ref q)] := hl
  refine lv_aload_n hx hb dJ5_getValue_6d5f1_0 rfl (lv_at hl 0 rfl) ?_
  refine va_get (D := G.1) (ci := 1) (v := .ref b) (C := RJ4) (T := TJ4) (N := 4) hx hb hts (by decide +kernel) hown hK.1 hP 0 rfl rfl 0 (by decide) (w_mem hts 1 rfl) (fun _ h9 => h9) rfl dJ5_getValue_6d5f1_1 ?_
  exact W.aret hx hb hr (Or.inr ⟨_, rfl⟩) (Or.inr ⟨_, rfl⟩) (fun t ht _ => ⟨rfl, ht⟩) (fun _ h => nomatch h) dJ5_getValue_6d5f1_4 hlocks

def rmJ5_length_8abf5 : Room := { frames := 1, cells := 0, slots := 0, locals := 60 }
set_option maxHeartbeats 4000000 in
set_option maxRecDepth 100000 in
theorem kJ5_length_8abf5 (l : Launch) (G : GT) (q b n m : Nat) (a : Nat → Int32) : Met l yJ5_length_8abf5 wsJ5_length_8abf5 rmJ5_length_8abf5 (va_Pc [.ref q] (yP G [bld q b n, byt G b m a])) (vp_Si (fun v => v = nI n)) 0 0 (fun _ => False) := by
  refine Met.ofW (cc := cJ5_length_8abf5) (maxL := 1) (ret := (some .int)) (by decide) rfl ?_
  intro p e s mt args below meth c s₁ B hml hv
  obtain ⟨rfl, ⟨hP, hK⟩, hZ⟩ := hv
  have bx := bx_of B hml
  have hS : va_S (fun _ => False) s.heap s.heap [] := va_S.rf
  obtain ⟨hx, hb, hr, hts, hown, hml, hlocks⟩ := id bx
  have hl := lv_entry ([.ref q]) (n := 1) (Nat.le_of_ble_eq_true rfl)
  rw [lg_entry_eq]
  generalize (lg_sl ([.ref q]) ++ List.replicate (1 - (lg_sl ([.ref q])).length) Slot.unset).toArray = ls at hl ⊢
  have hl : lv_has ls 1 [(0, .ref q)] := hl
  show GoI p l e rmJ5_length_8abf5 s mt _ below meth c _ (F0 mt 0 ls [])
  refine lv_aload_n hx hb dJ5_length_8abf5_0 rfl (lv_at hl 0 rfl) ?_
  refine va_get (D := G.1) (ci := 1) (v := .int (nI n)) (C := RJ4) (T := TJ4) (N := 4) hx hb hts (by decide +kernel) hown hK.1 hP 0 rfl rfl 3 (by decide) (w_mem hts 1 rfl) (fun _ h9 => h9) rfl dJ5_length_8abf5_1 ?_
  exact GoI.end hx hb hr hlocks dJ5_length_8abf5_4 rfl rfl

def rmJ4_length_8abf5 : Room := { frames := 2, cells := 0, slots := 0, locals := 80 }
set_option maxHeartbeats 4000000 in
set_option maxRecDepth 100000 in
theorem kJ4_length_8abf5 (l : Launch) (G : GT) (q b n m : Nat) (a : Nat → Int32) : Met l yJ4_length_8abf5 wsJ4_length_8abf5 rmJ4_length_8abf5 (va_Pc [.ref q] (yP G [bld q b n, byt G b m a])) (vp_Si (fun v => v = nI n)) 0 0 (fun _ => False) := by
  refine Met.ofW (cc := cJ4_length_8abf5) (maxL := 1) (ret := (some .int)) (by decide) rfl ?_
  intro p e s mt args below meth c s₁ B hml hv
  obtain ⟨rfl, ⟨hP, hK⟩, hZ⟩ := hv
  have bx := bx_of B hml
  have hS : va_S (fun _ => False) s.heap s.heap [] := va_S.rf
  obtain ⟨hx, hb, hr, hts, hown, hml, hlocks⟩ := id bx
  have hl := lv_entry ([.ref q]) (n := 1) (Nat.le_of_ble_eq_true rfl)
  rw [lg_entry_eq]
  generalize (lg_sl ([.ref q]) ++ List.replicate (1 - (lg_sl ([.ref q])).length) Slot.unset).toArray = ls at hl ⊢
  have hl : lv_has ls 1 [(0, .ref q)] := hl
  show GoI p l e rmJ4_length_8abf5 s mt _ below meth c _ (F0 mt 0 ls [])
  refine lv_aload_n hx hb dJ4_length_8abf5_0 rfl (lv_at hl 0 rfl) ?_
  refine ro_i (va_runSU (hK.1.1 1 _ rfl).2 (As := []) (rest := []) ⟨hx, hb, hml, hown, hts⟩ (kJ5_length_8abf5 l G q b n m a) (va_cwSU 0 hts gJ4_length_8abf5_J5_length_8abf5_s343 rfl rfl rfl (by decide +kernel) ⟨Nat.le_of_ble_eq_true rfl, Nat.le_of_ble_eq_true rfl⟩) (yV hP hS hK hZ 1 0 rfl rfl) rfl rfl hl.1 rfl (lv_room (Nat.le_of_ble_eq_true rfl)) dJ4_length_8abf5_1 ⟨Nat.le_of_ble_eq_true rfl, Nat.le_of_ble_eq_true rfl⟩) ?_
  exact GoI.end hx hb hr hlocks dJ4_length_8abf5_4 rfl rfl

def rmJ7_checkLength_df160 : Room := { frames := 1, cells := 0, slots := 0, locals := 60 }
set_option maxHeartbeats 4000000 in
set_option maxRecDepth 100000 in
theorem kJ7_checkLength_df160 (l : Launch) (n : Nat) (hn : n < 2 ^ 31) : Met l yJ7_checkLength_df160 wsJ7_checkLength_df160 rmJ7_checkLength_df160 (va_Pc [.int 0, .int (nI n)] noP) (va_Sv (fun _ => True)) 0 0 (fun _ => False) := by
  refine Met.ofW (cc := cJ7_checkLength_df160) (maxL := 2) (ret := none) (by decide) rfl ?_
  intro p e s mt args below meth c s₁ B hml hv
  obtain ⟨rfl, -⟩ := hv
  have bx := bx_of B hml
  obtain ⟨hx, hb, hr, hts, hown, hml, hlocks⟩ := id bx
  have hl := lv_entry ([.int 0, .int (nI n)]) (n := 2) (Nat.le_of_ble_eq_true rfl)
  rw [lg_entry_eq]
  generalize (lg_sl ([.int 0, .int (nI n)]) ++ List.replicate (2 - (lg_sl ([.int 0, .int (nI n)])).length) Slot.unset).toArray = ls at hl ⊢
  have hl : lv_has ls 2 [(0, .int 0), (1, .int (nI n))] := hl
  show GoV p l e rmJ7_checkLength_df160 s mt _ below meth c () (F0 mt 0 ls [])
  refine lv_iload_n hx hb dJ7_checkLength_df160_0 rfl (lv_at hl 1 rfl) ?_
  refine lv_iload_n hx hb dJ7_checkLength_df160_1 rfl (lv_at hl 0 rfl) ?_
  refine lv_icmp_ge (tgt := 37) hx hb dJ7_checkLength_df160_2 (by decide) (fun _ => ?_) (fun c_ => absurd (nI_pos' hn) c_)
  exact GoV.end (out := ()) hx hb hr hlocks dJ7_checkLength_df160_37

def rmJ7_copyOfRangeByte_39247 : Room := { frames := 2, cells := 1, slots := 70, locals := 81 }
set_option maxHeartbeats 4000000 in
set_option maxRecDepth 100000 in
theorem kJ7_copyOfRangeByte_39247 (l : Launch) (G : GT) (b m n : Nat) (a : Nat → Int32) (sz : Nat) (ha : Asc a) (hn : n ≤ m) (hm : m ≤ 70) : Met l yJ7_copyOfRangeByte_39247 wsJ7_copyOfRangeByte_39247 rmJ7_copyOfRangeByte_39247 (va_Pc [.ref b, .int 0, .int (nI n)] (zP G [byt G b m a] sz)) (va_Qr (fun u : Nat → Int32 => Asc u ∧ ∀ i, i < n → u i = a i) (fun u r t => va_P G.1 vwCl [byt G b m a, byt G r n u] t.heap ∧ va_D (va_A [byt G b m a] sz) [byt G b m a, byt G r n u]) (va_A [byt G b m a] sz)) 1 70 (va_A [byt G b m a] sz) := by
  refine Met.ofW (cc := cJ7_copyOfRangeByte_39247) (maxL := 5) (ret := (some (.array .byte))) (by decide) rfl ?_
  intro p e s mt args below meth c s₁ B hml hv
  obtain ⟨rfl, ⟨hsz, hP, hK, hD0⟩, hZ⟩ := hv
  have bx := bx_of B hml
  subst hsz
  have hD := hD0.self (sz := s.heap.size)
  generalize hAe : va_A [byt G b m a] s.heap.size = A at hD hZ ⊢
  have hA : ∀ q : Nat, s.heap.size ≤ q → A q := fun q h => by rw [← hAe]; exact Or.inr h
  have hS : va_S A s.heap s.heap [] := va_S.rf
  obtain ⟨hx, hb, hr, hts, hown, hml, hlocks⟩ := id bx
  have hl := lv_entry ([.ref b, .int 0, .int (nI n)]) (n := 5) (Nat.le_of_ble_eq_true rfl)
  rw [lg_entry_eq]
  generalize (lg_sl ([.ref b, .int 0, .int (nI n)]) ++ List.replicate (5 - (lg_sl ([.ref b, .int 0, .int (nI n)])).length) Slot.unset).toArray = ls at hl ⊢
  have hl : lv_has ls 5 [(0, .ref b), (1, .int 0), (2, .int (nI n))] := hl
  show W p l e rmJ7_copyOfRangeByte_39247 s mt _ below meth c s.heap [] 0 0 _ (F0 mt 0 ls [])
  refine lv_iload_n hx hb dJ7_copyOfRangeByte_39247_0 rfl (lv_at hl 1 rfl) ?_
  refine lv_iload_n hx hb dJ7_copyOfRangeByte_39247_1 rfl (lv_at hl 2 rfl) ?_
  refine ro_v (va_runS (As := [.int 0, .int (nI n)]) (rest := []) ⟨hx, hb, hml, hown, hts⟩ (kJ7_checkLength_df160 l n (by omega)) (va_cwS 2 hts gJ7_copyOfRangeByte_39247_J7_checkLength_df160 rfl rfl rfl (by decide +kernel) ⟨Nat.le_of_ble_eq_true rfl, Nat.le_of_ble_eq_true rfl⟩) noS rfl rfl hl.1 rfl (lv_room (Nat.le_of_ble_eq_true rfl)) dJ7_copyOfRangeByte_39247_2 ⟨Nat.le_of_ble_eq_true rfl, Nat.le_of_ble_eq_true rfl⟩) ?_
  refine lv_iload_n hx hb dJ7_copyOfRangeByte_39247_5 rfl (lv_at hl 2 rfl) ?_
  refine lv_iload_n hx hb dJ7_copyOfRangeByte_39247_6 rfl (lv_at hl 1 rfl) ?_
  refine lv_isub hx hb dJ7_copyOfRangeByte_39247_7 ?_
  rw [show ((nI n) - 0 : Int32) = nI n from pk_sub (a := n) (b := 0) (by omega)]
  refine lv_istore_n (lv' := [(3, .int (nI n)), (0, .ref b), (1, .int 0), (2, .int (nI n))]) hx hb dJ7_copyOfRangeByte_39247_8 rfl hl (by decide) rfl (fun ls hl => ?_)
  refine lv_iload_n hx hb dJ7_copyOfRangeByte_39247_9 rfl (lv_at hl 0 rfl) ?_
  refine va_newa (D := G.1) (atype := .byte) hx hb (w_mem hts 1 rfl) rfl hK.1 hP hD hS hA (N' := n) (a0 := (n, .inl zr)) (fun _ => rfl) (nI_pos (by omega)) (nI_clamp (by omega)) (by show n * 1 ≤ 536870912; omega) (Nat.le_of_ble_eq_true rfl) (by show 0 + n ≤ 70; omega) dJ7_copyOfRangeByte_39247_10 (fun r cA H hK1 hP hD hS => ?_)
  have e9 := tyB hK1
  subst e9
  clear hK1
  have hP : va_P G.1 vwCl [(b, .inl (G.2 4, m, .inl a)), (r, .inl (G.2 4, n, .inl zr))] H := hP
  have hD : va_D A [(b, .inl (G.2 4, m, .inl a)), (r, .inl (G.2 4, n, .inl zr))] := hD
  refine lv_astore (lv' := [(4, .ref r), (3, .int (nI n)), (0, .ref b), (1, .int 0), (2, .int (nI n))]) hx hb dJ7_copyOfRangeByte_39247_12 hl (by decide) rfl (fun ls hl => ?_)
  refine lv_aload_n hx hb dJ7_copyOfRangeByte_39247_14 rfl (lv_at hl 2 rfl) ?_
  refine lv_iload_n hx hb dJ7_copyOfRangeByte_39247_15 rfl (lv_at hl 3 rfl) ?_
  refine lv_aload hx hb dJ7_copyOfRangeByte_39247_16 (lv_at hl 0 rfl) ?_
  refine lv_iconst (v := 0) hx hb dJ7_copyOfRangeByte_39247_18 (by decide) ?_
  refine lv_aload_n hx hb dJ7_copyOfRangeByte_39247_19 rfl (lv_at hl 2 rfl) ?_
  refine va_alen (D := G.1) hx hb hK.1 hP 0 4 rfl rfl (v := nI m) rfl dJ7_copyOfRangeByte_39247_20 ?_
  refine lv_iload_n hx hb dJ7_copyOfRangeByte_39247_21 rfl (lv_at hl 3 rfl) ?_
  refine lv_isub hx hb dJ7_copyOfRangeByte_39247_22 ?_
  rw [show ((nI m) - 0 : Int32) = nI m from pk_sub (a := m) (b := 0) (by omega)]
  refine lv_iload_n hx hb dJ7_copyOfRangeByte_39247_23 rfl (lv_at hl 1 rfl) ?_
  refine va_mmin hx hb (hml.trans hl.1.symm) hown (w_mem hts 2 rfl) (w_mem hts 3 rfl) (w_mem hts 4 rfl) (w_mem hts 5 rfl) (Nat.le_of_ble_eq_true rfl) (Nat.le_of_ble_eq_true rfl) (Nat.le_of_ble_eq_true rfl) (by show 0 + _ ≤ 70; omega) dJ7_copyOfRangeByte_39247_24 ?_
  rw [show (if nI n < nI m then nI n else nI m : Int32) = nI n from mnI2 hn (by omega)]
  refine va_copyi (D := G.1) hx hb (hml.trans hl.1.symm) hown (w_mem hts 6 rfl) (w_mem hts 7 rfl) (w_mem hts 8 rfl) (w_mem hts 9 rfl) hK.1 hP hD hS 0 1 4 4 rfl rfl rfl rfl rfl (by decide) (by decide) (nI_pos (by omega)) (by rw [nI_clamp (n := n) (by omega), sb_cl0]; omega) (by rw [nI_clamp (n := n) (by omega), sb_cl0]; omega) (fun _ _ => asc_fit ha _) (Nat.le_of_ble_eq_true rfl) (Nat.le_of_ble_eq_true rfl) dJ7_copyOfRangeByte_39247_27 (fun H locs hP hD hS => ?_)
  rw [nI_clamp (n := n) (by omega), sb_cl0] at hP hD
  have hP : va_P G.1 vwCl [(b, .inl (G.2 4, m, .inl a)), (r, .inl (G.2 4, n, .inl (va_cpy a zr 0 0 n)))] H := hP
  have hD : va_D A [(b, .inl (G.2 4, m, .inl a)), (r, .inl (G.2 4, n, .inl (va_cpy a zr 0 0 n)))] := hD
  refine lv_aload hx hb dJ7_copyOfRangeByte_39247_30 (lv_at hl 0 rfl) ?_
  refine W.widen (k := 1) (n := 70) (by first | decide | omega) (by first | decide | omega) ?_
  exact W.aret hx hb hr (Or.inr ⟨_, rfl⟩) (Or.inr ⟨_, rfl⟩) (fun t ht _ => ⟨⟨(va_cpy a zr 0 0 n), _, rfl, ⟨asc_cpy ha asc_zr _ _ _, fun i hi => by show va_cpy a zr 0 0 n i = a i; rw [pk_cpy_in (by omega) (by omega)]; congr 1; omega⟩, by rw [ht]; exact hP, hD⟩, hS.F ht⟩) hS.2.2 dJ7_copyOfRangeByte_39247_32 hlocks

def rmJ7_copyOfRange_39247 : Room := { frames := 3, cells := 1, slots := 70, locals := 105 }
set_option maxHeartbeats 4000000 in
set_option maxRecDepth 100000 in
theorem kJ7_copyOfRange_39247 (l : Launch) (G : GT) (b m n : Nat) (a : Nat → Int32) (sz : Nat) (ha : Asc a) (hn : n ≤ m) (hm : m ≤ 70) : Met l yJ7_copyOfRange_39247 wsJ7_copyOfRange_39247 rmJ7_copyOfRange_39247 (va_Pc [.ref b, .int 0, .int (nI n)] (zP G [byt G b m a] sz)) (va_Qr (fun u : Nat → Int32 => Asc u ∧ ∀ i, i < n → u i = a i) (fun u r t => va_P G.1 vwCl [byt G b m a, byt G r n u] t.heap ∧ va_D (va_A [byt G b m a] sz) [byt G b m a, byt G r n u]) (va_A [byt G b m a] sz)) 1 70 (va_A [byt G b m a] sz) := by
  refine Met.ofW (cc := cJ7_copyOfRange_39247) (maxL := 3) (ret := (some (.array .byte))) (by decide) rfl ?_
  intro p e s mt args below meth c s₁ B hml hv
  obtain ⟨rfl, ⟨hsz, hP, hK, hD0⟩, hZ⟩ := hv
  have bx := bx_of B hml
  subst hsz
  have hD := hD0.self (sz := s.heap.size)
  generalize hAe : va_A [byt G b m a] s.heap.size = A at hD hZ ⊢
  have hA : ∀ q : Nat, s.heap.size ≤ q → A q := fun q h => by rw [← hAe]; exact Or.inr h
  have hS : va_S A s.heap s.heap [] := va_S.rf
  obtain ⟨hx, hb, hr, hts, hown, hml, hlocks⟩ := id bx
  have hl := lv_entry ([.ref b, .int 0, .int (nI n)]) (n := 3) (Nat.le_of_ble_eq_true rfl)
  rw [lg_entry_eq]
  generalize (lg_sl ([.ref b, .int 0, .int (nI n)]) ++ List.replicate (3 - (lg_sl ([.ref b, .int 0, .int (nI n)])).length) Slot.unset).toArray = ls at hl ⊢
  have hl : lv_has ls 3 [(0, .ref b), (1, .int 0), (2, .int (nI n))] := hl
  show W p l e rmJ7_copyOfRange_39247 s mt _ below meth c s.heap [] 0 0 _ (F0 mt 0 ls [])
  refine lv_iload_n hx hb dJ7_copyOfRange_39247_0 rfl (lv_at hl 1 rfl) ?_
  refine lv_if_ne (tgt := 10) hx hb dJ7_copyOfRange_39247_1 (by decide) (fun c_ => absurd (rfl : (0 : Int32) = 0) c_) (fun _ => ?_)
  refine lv_iload_n hx hb dJ7_copyOfRange_39247_4 rfl (lv_at hl 2 rfl) ?_
  refine lv_aload_n hx hb dJ7_copyOfRange_39247_5 rfl (lv_at hl 0 rfl) ?_
  refine va_alen (D := G.1) hx hb hK.1 hP 0 4 rfl rfl (v := nI m) rfl dJ7_copyOfRange_39247_6 ?_
  by_cases hc : n = m
  · subst hc
    refine lv_icmp_eq (tgt := 17) hx hb dJ7_copyOfRange_39247_7 (by decide) (fun _ => ?_) (fun c_ => absurd rfl c_)
    refine lv_aload_n hx hb dJ7_copyOfRange_39247_17 rfl (lv_at hl 0 rfl) ?_
    refine va_clone (D := G.1) hx hb (hml.trans hl.1.symm) (ad := "[B") hown (w_mem hts 1 rfl) (w_mem hts 2 rfl) (w_mem hts 3 rfl) (w_mem hts 4 rfl) (w_mem hts 5 rfl) hZ.2.2.2.2 hK.1 hP hD hS hA 0 4 rfl rfl (hK.1.2 4 (G.2 4, .byte) rfl).2 (fun i v hv => ?_) (Nat.le_of_ble_eq_true rfl) (Nat.le_of_ble_eq_true rfl) (Nat.le_of_ble_eq_true rfl) (by show 0 + _ ≤ 70; exact (show 0 + n ≤ 70 by omega)) dJ7_copyOfRange_39247_18 (fun r H hK1 hP hD hS => ?_)
    · by_cases hi : i < n
      · have e9 : (vp_cell (G.2 4) (n, .inl a)).slots[i]? = some (.int (a i)) := arrV_read _ _ hi
        rw [e9] at hv; cases hv; exact asc_fit ha i
      · have e9 : (vp_cell (G.2 4) (n, .inl a)).slots[i]? = none := by rw [Array.getElem?_eq_none_iff]; show (arrV _ _ _).slots.size ≤ i; rw [arrV_size]; omega
        rw [e9] at hv; cases hv
    clear hK1
    have hP : va_P G.1 vwCl [(b, .inl (G.2 4, n, .inl a)), (r, .inl (G.2 4, n, .inl a))] H := hP
    have hD : va_D A [(b, .inl (G.2 4, n, .inl a)), (r, .inl (G.2 4, n, .inl a))] := hD
    refine va_castA (D := G.1) hx hb hown (w_mem hts 6 rfl) hP 1 rfl (hK.1.2 4 (G.2 4, .byte) rfl).2 dJ7_copyOfRange_39247_21 ?_
    refine W.widen (k := 1) (n := 70) (by first | decide | omega) (by first | decide | omega) ?_
    exact W.aret hx hb hr (Or.inr ⟨_, rfl⟩) (Or.inr ⟨_, rfl⟩) (fun t ht _ => ⟨⟨a, _, rfl, ⟨ha, fun _ _ => rfl⟩, by rw [ht]; exact hP, hD⟩, hS.F ht⟩) hS.2.2 dJ7_copyOfRange_39247_24 hlocks
  · refine lv_icmp_eq (tgt := 17) hx hb dJ7_copyOfRange_39247_7 (by decide) (fun c_ => absurd ((nI_eq (by omega) (by omega)).mp c_) hc) (fun _ => ?_)
    refine lv_aload_n hx hb dJ7_copyOfRange_39247_10 rfl (lv_at hl 0 rfl) ?_
    refine lv_iload_n hx hb dJ7_copyOfRange_39247_11 rfl (lv_at hl 1 rfl) ?_
    refine lv_iload_n hx hb dJ7_copyOfRange_39247_12 rfl (lv_at hl 2 rfl) ?_
    refine j_r (Wd := fun u r => [byt G b m a, byt G r n u]) (wc := [byt G b m a]) (wr := []) (va_runS (As := [.ref b, .int 0, .int (nI n)]) (rest := []) ⟨hx, hb, hml, hown, hts⟩ (kJ7_copyOfRangeByte_39247 l G b m n a _ ha hn hm) (va_cwS 3 hts gJ7_copyOfRange_39247_J7_copyOfRangeByte_39247 rfl rfl rfl (by decide +kernel) ⟨Nat.le_of_ble_eq_true rfl, Nat.le_of_ble_eq_true rfl⟩) (zS hP hD hS hK hA hZ) rfl rfl hl.1 rfl (lv_room (Nat.le_of_ble_eq_true rfl)) dJ7_copyOfRange_39247_13 ⟨Nat.le_of_ble_eq_true rfl, Nat.le_of_ble_eq_true rfl⟩) hP hD hS hA [0] [] rfl rfl (by decide) (by decide) (fun u r H locs hu hP hD hS => ?_)
    have hP : va_P G.1 vwCl [(b, .inl (G.2 4, m, .inl a)), (r, .inl (G.2 4, n, .inl u))] H := hP
    have hD : va_D A [(b, .inl (G.2 4, m, .inl a)), (r, .inl (G.2 4, n, .inl u))] := hD
    refine W.widen (k := 1) (n := 70) (by first | decide | omega) (by first | decide | omega) ?_
    exact W.aret hx hb hr (Or.inr ⟨_, rfl⟩) (Or.inr ⟨_, rfl⟩) (fun t ht _ => ⟨⟨u, _, rfl, hu, by rw [ht]; exact hP, hD⟩, hS.F ht⟩) hS.2.2 dJ7_copyOfRange_39247_16 hlocks

def rmJ0_init_db425 : Room := { frames := 4, cells := 1, slots := 70, locals := 127 }
set_option maxHeartbeats 4000000 in
set_option maxRecDepth 100000 in
theorem kJ0_init_db425 (l : Launch) (G : GT) (qs q b n m : Nat) (a : Nat → Int32) (sz : Nat) (ha : Asc a) (hn : n ≤ m) (hm : m ≤ 70) : Met l yJ0_init_db425 wsJ0_init_db425 rmJ0_init_db425 (va_Pc [.ref qs, .ref q, .null] (zP G [(qs, .inr (0, [.null, .int 0, .int 0, .int 0])), bld q b n, byt G b m a] sz)) (va_Qv (fun u : Nat × (Nat → Int32) => Asc u.2 ∧ ∀ i, i < n → u.2 i = a i) (fun u t => va_P G.1 vwCl [str qs u.1, byt G u.1 n u.2] t.heap ∧ va_D (va_A [(qs, .inr (0, [.null, .int 0, .int 0, .int 0])), bld q b n, byt G b m a] sz) [str qs u.1, byt G u.1 n u.2]) (va_A [(qs, .inr (0, [.null, .int 0, .int 0, .int 0])), bld q b n, byt G b m a] sz)) 1 70 (va_A [(qs, .inr (0, [.null, .int 0, .int 0, .int 0])), bld q b n, byt G b m a] sz) := by
  refine Met.ofW (cc := cJ0_init_db425) (maxL := 5) (ret := none) (by decide) rfl ?_
  intro p e s mt args below meth c s₁ B hml hv
  obtain ⟨rfl, ⟨hsz, hP, hK, hD0⟩, hZ⟩ := hv
  have bx := bx_of B hml
  have hin : meth.name = "<init>" := (name_of_methodNamed B.named B.method).1
  subst hsz
  have hD := hD0.self (sz := s.heap.size)
  generalize hAe : va_A [(qs, .inr (0, [.null, .int 0, .int 0, .int 0])), bld q b n, byt G b m a] s.heap.size = A at hD hZ ⊢
  have hA : ∀ q : Nat, s.heap.size ≤ q → A q := fun q h => by rw [← hAe]; exact Or.inr h
  have hS : va_S A s.heap s.heap [] := va_S.rf
  obtain ⟨hx, hb, hr, hts, hown, hml, hlocks⟩ := id bx
  have hl := lv_entry ([.ref qs, .ref q, .null]) (n := 5) (Nat.le_of_ble_eq_true rfl)
  rw [lg_entry_eq]
  generalize (lg_sl ([.ref qs, .ref q, .null]) ++ List.replicate (5 - (lg_sl ([.ref qs, .ref q, .null])).length) Slot.unset).toArray = ls at hl ⊢
  have hl : lv_has ls 5 [(0, .ref qs), (1, .ref q), (2, .null)] := hl
  show W p l e rmJ0_init_db425 s mt _ below meth c s.heap [] 0 0 _ (F0 mt 0 ls [])
  refine lv_aload_n hx hb dJ0_init_db425_0 rfl (lv_at hl 0 rfl) ?_
  refine W.objInit hx hb hown (w_mem hts 1 rfl) (w_mem hts 2 rfl) (w_mem hts 3 rfl) rfl (by rw [hml]; exact hl.1) rfl dJ0_init_db425_1 (Nat.le_of_ble_eq_true rfl) (Nat.le_of_ble_eq_true rfl) ?_
  refine W.eq (g2 := F0 mt 4 ls []) rfl ?_
  refine lv_aload_n hx hb dJ0_init_db425_4 rfl (lv_at hl 1 rfl) ?_
  refine ro_r (va_runU (As := []) (rest := []) ⟨hx, hb, hml, hown, hts⟩ (kJ5_getValue_6d5f1 l G q b n m a) (va_cwU 0 hts gJ0_init_db425_J5_getValue_6d5f1_u552J4 rfl rfl rfl rfl (by decide +kernel) ⟨Nat.le_of_ble_eq_true rfl, Nat.le_of_ble_eq_true rfl⟩) (yV (hP.sub (ws' := [bld q b n, byt G b m a]) [1, 2] rfl) hS hK hZ 1 0 rfl rfl) rfl rfl hl.1 rfl (lv_room (Nat.le_of_ble_eq_true rfl)) dJ0_init_db425_5 ⟨Nat.le_of_ble_eq_true rfl, Nat.le_of_ble_eq_true rfl⟩) ?_
  refine lv_astore_n (lv' := [(3, .ref b), (0, .ref qs), (1, .ref q), (2, .null)]) hx hb dJ0_init_db425_8 rfl hl (by decide) rfl (fun ls hl => ?_)
  refine lv_aload_n hx hb dJ0_init_db425_9 rfl (lv_at hl 2 rfl) ?_
  refine ro_i (va_runU (As := []) (rest := []) ⟨hx, hb, hml, hown, hts⟩ (kJ4_length_8abf5 l G q b n m a) (va_cwO 0 hts gJ0_init_db425_J4_length_8abf5_u549J4 rfl rfl rfl (List.mem_of_getElem? (i := 25) rfl) (by decide +kernel) ⟨Nat.le_of_ble_eq_true rfl, Nat.le_of_ble_eq_true rfl⟩) (yV (hP.sub (ws' := [bld q b n, byt G b m a]) [1, 2] rfl) hS hK hZ 1 0 rfl rfl) rfl rfl hl.1 rfl (lv_room (Nat.le_of_ble_eq_true rfl)) dJ0_init_db425_10 ⟨Nat.le_of_ble_eq_true rfl, Nat.le_of_ble_eq_true rfl⟩) ?_
  refine lv_istore (lv' := [(4, .int (nI n)), (3, .ref b), (0, .ref qs), (1, .ref q), (2, .null)]) hx hb dJ0_init_db425_13 hl (by decide) rfl (fun ls hl => ?_)
  refine lv_aload_n hx hb dJ0_init_db425_15 rfl (lv_at hl 3 rfl) ?_
  refine ro_i (va_runU (As := []) (rest := []) ⟨hx, hb, hml, hown, hts⟩ (kJ5_isLatin1_aae02 l G q b n m a) (va_cwU 0 hts gJ0_init_db425_J5_isLatin1_aae02_u1047J4 rfl rfl rfl rfl (by decide +kernel) ⟨Nat.le_of_ble_eq_true rfl, Nat.le_of_ble_eq_true rfl⟩) (yV (hP.sub (ws' := [bld q b n, byt G b m a]) [1, 2] rfl) hS hK hZ 1 0 rfl rfl) rfl rfl hl.1 rfl (lv_room (Nat.le_of_ble_eq_true rfl)) dJ0_init_db425_16 ⟨Nat.le_of_ble_eq_true rfl, Nat.le_of_ble_eq_true rfl⟩) ?_
  refine lv_if_eq (tgt := 41) hx hb dJ0_init_db425_19 (by decide) (fun c_ => absurd c_ (by decide : ¬ (1 : Int32) = 0)) (fun _ => ?_)
  refine lv_aload_n hx hb dJ0_init_db425_22 rfl (lv_at hl 2 rfl) ?_
  refine lv_iconst (v := 0) hx hb dJ0_init_db425_23 (by decide) ?_
  refine va_putF (D := G.1) (ci := 0) (v := .int 0) (ty := .byte) (C := RJ0) (T := TJ0) (N := 4) hx hb hts (by decide +kernel) tyJ0 tyJ0_ok nmJ0 hown hK.1 hP hD hS 0 rfl rfl 1 (by decide) (w_mem hts 4 rfl) (fun _ h9 => h9) rfl hin rfl (by decide +kernel) rfl rfl (Nat.le_of_ble_eq_true rfl) dJ0_init_db425_24 (fun H locs hP hD hS => ?_)
  have hP : va_P G.1 vwCl [(qs, .inr (0, [.null, .int 0, .int 0, .int 0])), (q, .inr (1, [.ref b, .int 0, .int 0, .int (nI n)])), (b, .inl (G.2 4, m, .inl a))] H := hP
  have hD : va_D A [(qs, .inr (0, [.null, .int 0, .int 0, .int 0])), (q, .inr (1, [.ref b, .int 0, .int 0, .int (nI n)])), (b, .inl (G.2 4, m, .inl a))] := hD
  refine lv_aload_n hx hb dJ0_init_db425_27 rfl (lv_at hl 2 rfl) ?_
  refine lv_aload_n hx hb dJ0_init_db425_28 rfl (lv_at hl 1 rfl) ?_
  refine lv_iconst (v := 0) hx hb dJ0_init_db425_29 (by decide) ?_
  refine lv_iload hx hb dJ0_init_db425_30 (lv_at hl 0 rfl) ?_
  refine j_r (Wd := fun u r => [byt G b m a, byt G r n u]) (wc := [byt G b m a]) (wr := [(qs, .inr (0, [.null, .int 0, .int 0, .int 0])), bld q b n]) (va_runS (As := [.ref b, .int 0, .int (nI n)]) (rest := [.ref qs]) ⟨hx, hb, hml, hown, hts⟩ (kJ7_copyOfRange_39247 l G b m n a _ ha hn hm) (va_cwS 3 hts gJ0_init_db425_J7_copyOfRange_39247 rfl rfl rfl (by decide +kernel) ⟨Nat.le_of_ble_eq_true rfl, Nat.le_of_ble_eq_true rfl⟩) (zS (hP.sub (ws' := [byt G b m a]) [2] rfl) (hD.sub (ws' := [byt G b m a]) [2] (by decide) rfl) hS hK hA hZ) rfl rfl hl.1 rfl (lv_room (Nat.le_of_ble_eq_true rfl)) dJ0_init_db425_32 ⟨Nat.le_of_ble_eq_true rfl, Nat.le_of_ble_eq_true rfl⟩) hP hD hS hA [2] [0, 1] rfl rfl (by decide) (by decide) (fun u r H locs hu hP hD hS => ?_)
  have hP : va_P G.1 vwCl [(qs, .inr (0, [.null, .int 0, .int 0, .int 0])), (q, .inr (1, [.ref b, .int 0, .int 0, .int (nI n)])), (b, .inl (G.2 4, m, .inl a)), (r, .inl (G.2 4, n, .inl u))] H := hP
  have hD : va_D A [(qs, .inr (0, [.null, .int 0, .int 0, .int 0])), (q, .inr (1, [.ref b, .int 0, .int 0, .int (nI n)])), (b, .inl (G.2 4, m, .inl a)), (r, .inl (G.2 4, n, .inl u))] := hD
  refine va_putF (D := G.1) (ci := 0) (v := .ref r) (ty := (.array .byte)) (C := RJ0) (T := TJ0) (N := 4) hx hb hts (by decide +kernel) tyJ0 tyJ0_ok nmJ0 hown hK.1 hP hD hS 0 rfl rfl 0 (by decide) (w_mem hts 5 rfl) (fun _ h9 => h9) rfl hin rfl (by decide +kernel) rfl rfl (Nat.le_of_ble_eq_true rfl) dJ0_init_db425_35 (fun H locs hP hD hS => ?_)
  have hP : va_P G.1 vwCl [(qs, .inr (0, [.ref r, .int 0, .int 0, .int 0])), (q, .inr (1, [.ref b, .int 0, .int 0, .int (nI n)])), (b, .inl (G.2 4, m, .inl a)), (r, .inl (G.2 4, n, .inl u))] H := hP
  have hD : va_D A [(qs, .inr (0, [.ref r, .int 0, .int 0, .int 0])), (q, .inr (1, [.ref b, .int 0, .int 0, .int (nI n)])), (b, .inl (G.2 4, m, .inl a)), (r, .inl (G.2 4, n, .inl u))] := hD
  refine lv_goto (tgt := 97) hx hb dJ0_init_db425_38 (by decide) ?_
  have hP := hP.sub (ws' := [str qs r, byt G r n u]) [0, 3] rfl
  have hD := hD.sub (ws' := [str qs r, byt G r n u]) [0, 3] (by decide) rfl
  refine W.widen (k := 1) (n := 70) (by first | decide | omega) (by first | decide | omega) ?_
  exact W.vret hx hb hr (fun t ht _ => ⟨⟨(r, u), rfl, hu, by rw [ht]; exact hP, hD⟩, hS.F ht⟩) hS.2.2 dJ0_init_db425_97 hlocks

def rmJ0_init_81219 : Room := { frames := 5, cells := 1, slots := 70, locals := 151 }
set_option maxHeartbeats 4000000 in
set_option maxRecDepth 100000 in
theorem kJ0_init_81219 (l : Launch) (G : GT) (qs q b n m : Nat) (a : Nat → Int32) (sz : Nat) (ha : Asc a) (hn : n ≤ m) (hm : m ≤ 70) : Met l yJ0_init_81219 wsJ0_init_81219 rmJ0_init_81219 (va_Pc [.ref qs, .ref q] (zP G [(qs, .inr (0, [.null, .int 0, .int 0, .int 0])), bld q b n, byt G b m a] sz)) (va_Qv (fun u : Nat × (Nat → Int32) => Asc u.2 ∧ ∀ i, i < n → u.2 i = a i) (fun u t => va_P G.1 vwCl [str qs u.1, byt G u.1 n u.2] t.heap ∧ va_D (va_A [(qs, .inr (0, [.null, .int 0, .int 0, .int 0])), bld q b n, byt G b m a] sz) [str qs u.1, byt G u.1 n u.2]) (va_A [(qs, .inr (0, [.null, .int 0, .int 0, .int 0])), bld q b n, byt G b m a] sz)) 1 70 (va_A [(qs, .inr (0, [.null, .int 0, .int 0, .int 0])), bld q b n, byt G b m a] sz) := by
  refine Met.ofW (cc := cJ0_init_81219) (maxL := 2) (ret := none) (by decide) rfl ?_
  intro p e s mt args below meth c s₁ B hml hv
  obtain ⟨rfl, ⟨hsz, hP, hK, hD0⟩, hZ⟩ := hv
  have bx := bx_of B hml
  have hin : meth.name = "<init>" := (name_of_methodNamed B.named B.method).1
  subst hsz
  have hD := hD0.self (sz := s.heap.size)
  generalize hAe : va_A [(qs, .inr (0, [.null, .int 0, .int 0, .int 0])), bld q b n, byt G b m a] s.heap.size = A at hD hZ ⊢
  have hA : ∀ q : Nat, s.heap.size ≤ q → A q := fun q h => by rw [← hAe]; exact Or.inr h
  have hS : va_S A s.heap s.heap [] := va_S.rf
  obtain ⟨hx, hb, hr, hts, hown, hml, hlocks⟩ := id bx
  have hl := lv_entry ([.ref qs, .ref q]) (n := 2) (Nat.le_of_ble_eq_true rfl)
  rw [lg_entry_eq]
  generalize (lg_sl ([.ref qs, .ref q]) ++ List.replicate (2 - (lg_sl ([.ref qs, .ref q])).length) Slot.unset).toArray = ls at hl ⊢
  have hl : lv_has ls 2 [(0, .ref qs), (1, .ref q)] := hl
  show W p l e rmJ0_init_81219 s mt _ below meth c s.heap [] 0 0 _ (F0 mt 0 ls [])
  refine lv_aload_n hx hb dJ0_init_81219_0 rfl (lv_at hl 0 rfl) ?_
  refine lv_aload_n hx hb dJ0_init_81219_1 rfl (lv_at hl 1 rfl) ?_
  refine lv_null hx hb dJ0_init_81219_2 ?_
  refine j_v (Wd := fun u : Nat × (Nat → Int32) => [str qs u.1, byt G u.1 n u.2]) (wc := [(qs, .inr (0, [.null, .int 0, .int 0, .int 0])), bld q b n, byt G b m a]) (wr := []) (va_runI (As := [.ref q, .null]) (rest := []) ⟨hx, hb, hml, hown, hts⟩ (kJ0_init_db425 l G qs q b n m a _ ha hn hm) (cwI 2 hts gJ0_init_81219_J0_init_db425 rfl rfl rfl (w_mem hts 3 rfl) (w_mem hts 1 rfl) (w_mem hts 2 rfl) rfl (by decide +kernel) ⟨Nat.le_of_ble_eq_true rfl, Nat.le_of_ble_eq_true rfl⟩) (zS hP hD hS hK hA hZ) rfl rfl hl.1 rfl (lv_room (Nat.le_of_ble_eq_true rfl)) dJ0_init_81219_3 ⟨Nat.le_of_ble_eq_true rfl, Nat.le_of_ble_eq_true rfl⟩) hP hD hS hA [0, 1, 2] [] rfl rfl (by decide) (by decide) (fun u H locs hu hP hD hS => ?_)
  have hP : va_P G.1 vwCl [(qs, .inr (0, [.ref u.1, .int 0, .int 0, .int 0])), (u.1, .inl (G.2 4, n, .inl (u.2)))] H := hP
  have hD : va_D A [(qs, .inr (0, [.ref u.1, .int 0, .int 0, .int 0])), (u.1, .inl (G.2 4, n, .inl (u.2)))] := hD
  refine W.widen (k := 1) (n := 70) (by first | decide | omega) (by first | decide | omega) ?_
  exact W.vret hx hb hr (fun t ht _ => ⟨⟨u, rfl, hu, by rw [ht]; exact hP, hD⟩, hS.F ht⟩) hS.2.2 dJ0_init_81219_6 hlocks

def rmJ4_toString_0e30d : Room := { frames := 6, cells := 2, slots := 74, locals := 172 }
set_option maxHeartbeats 4000000 in
set_option maxRecDepth 100000 in
theorem kJ4_toString_0e30d (l : Launch) (G : GT) (q b n m : Nat) (a : Nat → Int32) (sz : Nat) (ha : Asc a) (hn : n ≤ m) (hm : m ≤ 70) : Met l yJ4_toString_0e30d wsJ4_toString_0e30d rmJ4_toString_0e30d (va_Pc [.ref q] (zP G [bld q b n, byt G b m a] sz)) (va_Qr (fun u : Nat × (Nat → Int32) => Asc u.2 ∧ ∀ i, i < n → u.2 i = a i) (fun u r t => va_P G.1 vwCl [str r u.1, byt G u.1 n u.2] t.heap ∧ va_D (va_A [bld q b n, byt G b m a] sz) [str r u.1, byt G u.1 n u.2]) (va_A [bld q b n, byt G b m a] sz)) 2 74 (va_A [bld q b n, byt G b m a] sz) := by
  refine Met.ofW (cc := cJ4_toString_0e30d) (maxL := 1) (ret := (some (.object "java/lang/String"))) (by decide) rfl ?_
  intro p e s mt args below meth c s₁ B hml hv
  obtain ⟨rfl, ⟨hsz, hP, hK, hD0⟩, hZ⟩ := hv
  have bx := bx_of B hml
  subst hsz
  have hD := hD0.self (sz := s.heap.size)
  generalize hAe : va_A [bld q b n, byt G b m a] s.heap.size = A at hD hZ ⊢
  have hA : ∀ q : Nat, s.heap.size ≤ q → A q := fun q h => by rw [← hAe]; exact Or.inr h
  have hS : va_S A s.heap s.heap [] := va_S.rf
  obtain ⟨hx, hb, hr, hts, hown, hml, hlocks⟩ := id bx
  have hl := lv_entry ([.ref q]) (n := 1) (Nat.le_of_ble_eq_true rfl)
  rw [lg_entry_eq]
  generalize (lg_sl ([.ref q]) ++ List.replicate (1 - (lg_sl ([.ref q])).length) Slot.unset).toArray = ls at hl ⊢
  have hl : lv_has ls 1 [(0, .ref q)] := hl
  show W p l e rmJ4_toString_0e30d s mt _ below meth c s.heap [] 0 0 _ (F0 mt 0 ls [])
  refine va_new (D := G.1) (ci := 0) (fs := [.null, .int 0, .int 0, .int 0]) (C := RJ0) (T := TJ0) (N := 4) hx hb hts (by decide +kernel) tyJ0 tyJ0_ok hown (w_mem hts 1 rfl) (w_mem hts 2 rfl) (w_mem hts 3 rfl) hK.1 hP hD hS hA rfl (fun j hj => by rcases (show j = 0 ∨ j = 1 ∨ j = 2 ∨ j = 3 by omega) with rfl | rfl | rfl | rfl <;> rfl) (Nat.le_of_ble_eq_true rfl) (Nat.le_of_ble_eq_true rfl) dJ4_toString_0e30d_0 (fun qs H hP hD hS => ?_)
  have hP : va_P G.1 vwCl [(q, .inr (1, [.ref b, .int 0, .int 0, .int (nI n)])), (b, .inl (G.2 4, m, .inl a)), (qs, .inr (0, [.null, .int 0, .int 0, .int 0]))] H := hP
  have hD : va_D A [(q, .inr (1, [.ref b, .int 0, .int 0, .int (nI n)])), (b, .inl (G.2 4, m, .inl a)), (qs, .inr (0, [.null, .int 0, .int 0, .int 0]))] := hD
  refine lv_dup hx hb dJ4_toString_0e30d_3 rfl ?_
  refine lv_aload_n hx hb dJ4_toString_0e30d_4 rfl (lv_at hl 0 rfl) ?_
  refine j_v (Wd := fun u : Nat × (Nat → Int32) => [str qs u.1, byt G u.1 n u.2]) (wc := [(qs, .inr (0, [.null, .int 0, .int 0, .int 0])), bld q b n, byt G b m a]) (wr := []) (va_runI (As := [.ref q]) (rest := [.ref qs]) ⟨hx, hb, hml, hown, hts⟩ (kJ0_init_81219 l G qs q b n m a _ ha hn hm) (cwI 1 hts gJ4_toString_0e30d_J0_init_81219 rfl rfl rfl (w_mem hts 3 rfl) (w_mem hts 4 rfl) (w_mem hts 5 rfl) rfl (by decide +kernel) ⟨Nat.le_of_ble_eq_true rfl, Nat.le_of_ble_eq_true rfl⟩) (zS (hP.sub (ws' := [(qs, .inr (0, [.null, .int 0, .int 0, .int 0])), bld q b n, byt G b m a]) [2, 0, 1] rfl) (hD.sub (ws' := [(qs, .inr (0, [.null, .int 0, .int 0, .int 0])), bld q b n, byt G b m a]) [2, 0, 1] (by decide) rfl) hS hK hA hZ) rfl rfl hl.1 rfl (lv_room (Nat.le_of_ble_eq_true rfl)) dJ4_toString_0e30d_5 ⟨Nat.le_of_ble_eq_true rfl, Nat.le_of_ble_eq_true rfl⟩) hP hD hS hA [2, 0, 1] [] rfl rfl (by decide) (by decide) (fun u H locs hu hP hD hS => ?_)
  have hP : va_P G.1 vwCl [(qs, .inr (0, [.ref u.1, .int 0, .int 0, .int 0])), (u.1, .inl (G.2 4, n, .inl (u.2)))] H := hP
  have hD : va_D A [(qs, .inr (0, [.ref u.1, .int 0, .int 0, .int 0])), (u.1, .inl (G.2 4, n, .inl (u.2)))] := hD
  refine W.widen (k := 2) (n := 74) (by first | decide | omega) (by first | decide | omega) ?_
  exact W.aret hx hb hr (Or.inl ⟨_, rfl⟩) (Or.inr ⟨_, rfl⟩) (fun t ht _ => ⟨⟨u, _, rfl, hu, by rw [ht]; exact hP, hD⟩, hS.F ht⟩) hS.2.2 dJ4_toString_0e30d_8 hlocks

def rmJ0_coder_7d493 : Room := { frames := 1, cells := 0, slots := 0, locals := 60 }
set_option maxHeartbeats 4000000 in
set_option maxRecDepth 100000 in
theorem kJ0_coder_7d493 (l : Launch) (G : GT) (q b n : Nat) (a : Nat → Int32) : Met l yJ0_coder_7d493 wsJ0_coder_7d493 rmJ0_coder_7d493 (va_Pc [.ref q] (yP G [str q b, byt G b n a])) (vp_Si (fun v => v = 0)) 0 0 (fun _ => False) := by
  refine Met.ofW (cc := cJ0_coder_7d493) (maxL := 1) (ret := (some .byte)) (by decide) rfl ?_
  intro p e s mt args below meth c s₁ B hml hv
  obtain ⟨rfl, ⟨hP, hK⟩, hZ⟩ := hv
  have bx := bx_of B hml
  have hS : va_S (fun _ => False) s.heap s.heap [] := va_S.rf
  obtain ⟨hx, hb, hr, hts, hown, hml, hlocks⟩ := id bx
  have hl := lv_entry ([.ref q]) (n := 1) (Nat.le_of_ble_eq_true rfl)
  rw [lg_entry_eq]
  generalize (lg_sl ([.ref q]) ++ List.replicate (1 - (lg_sl ([.ref q])).length) Slot.unset).toArray = ls at hl ⊢
  have hl : lv_has ls 1 [(0, .ref q)] := hl
  show GoI p l e rmJ0_coder_7d493 s mt _ below meth c _ (F0 mt 0 ls [])
  refine va_gets hx hb hZ.1 hS hown (w_mem hts 1 rfl) (fun _ h9 => h9) dJ0_coder_7d493_0 ?_
  refine lv_if_eq (tgt := 13) hx hb dJ0_coder_7d493_3 (by decide) (fun c_ => absurd c_ (by decide : ¬ (1 : Int32) = 0)) (fun _ => ?_)
  refine lv_aload_n hx hb dJ0_coder_7d493_6 rfl (lv_at hl 0 rfl) ?_
  refine va_get (D := G.1) (ci := 0) (v := .int 0) (C := RJ0) (T := TJ0) (N := 4) hx hb hts (by decide +kernel) hown hK.1 hP 0 rfl rfl 1 (by decide) (w_mem hts 2 rfl) (fun _ h9 => h9) rfl dJ0_coder_7d493_7 ?_
  refine lv_goto (tgt := 14) hx hb dJ0_coder_7d493_10 (by decide) ?_
  exact GoI.end hx hb hr hlocks dJ0_coder_7d493_14 rfl rfl

def rmJ0_length_8abf5 : Room := { frames := 2, cells := 0, slots := 0, locals := 80 }
set_option maxHeartbeats 4000000 in
set_option maxRecDepth 100000 in
theorem kJ0_length_8abf5 (l : Launch) (G : GT) (q b n : Nat) (a : Nat → Int32) : Met l yJ0_length_8abf5 wsJ0_length_8abf5 rmJ0_length_8abf5 (va_Pc [.ref q] (yP G [str q b, byt G b n a])) (vp_Si (fun v => v = nI n)) 0 0 (fun _ => False) := by
  refine Met.ofW (cc := cJ0_length_8abf5) (maxL := 1) (ret := (some .int)) (by decide) rfl ?_
  intro p e s mt args below meth c s₁ B hml hv
  obtain ⟨rfl, ⟨hP, hK⟩, hZ⟩ := hv
  have bx := bx_of B hml
  have hS : va_S (fun _ => False) s.heap s.heap [] := va_S.rf
  obtain ⟨hx, hb, hr, hts, hown, hml, hlocks⟩ := id bx
  have hl := lv_entry ([.ref q]) (n := 1) (Nat.le_of_ble_eq_true rfl)
  rw [lg_entry_eq]
  generalize (lg_sl ([.ref q]) ++ List.replicate (1 - (lg_sl ([.ref q])).length) Slot.unset).toArray = ls at hl ⊢
  have hl : lv_has ls 1 [(0, .ref q)] := hl
  show GoI p l e rmJ0_length_8abf5 s mt _ below meth c _ (F0 mt 0 ls [])
  refine lv_aload_n hx hb dJ0_length_8abf5_0 rfl (lv_at hl 0 rfl) ?_
  refine va_get (D := G.1) (ci := 0) (v := .ref b) (C := RJ0) (T := TJ0) (N := 4) hx hb hts (by decide +kernel) hown hK.1 hP 0 rfl rfl 0 (by decide) (w_mem hts 1 rfl) (fun _ h9 => h9) rfl dJ0_length_8abf5_1 ?_
  refine va_alen (D := G.1) hx hb hK.1 hP 1 4 rfl rfl (v := nI n) rfl dJ0_length_8abf5_4 ?_
  refine lv_aload_n hx hb dJ0_length_8abf5_5 rfl (lv_at hl 0 rfl) ?_
  refine ro_i (va_runV (As := []) (rest := [.int (nI n)]) ⟨hx, hb, hml, hown, hts⟩ (kJ0_coder_7d493 l G q b n a) (cwV 0 hts gJ0_length_8abf5_J0_coder_7d493 rfl rfl rfl (by decide +kernel) ⟨Nat.le_of_ble_eq_true rfl, Nat.le_of_ble_eq_true rfl⟩) (yV hP hS hK hZ 0 0 rfl rfl) rfl rfl hl.1 rfl (lv_room (Nat.le_of_ble_eq_true rfl)) dJ0_length_8abf5_6 ⟨Nat.le_of_ble_eq_true rfl, Nat.le_of_ble_eq_true rfl⟩) ?_
  refine lv_ishr hx hb dJ0_length_8abf5_9 ?_
  rw [show ((nI n) >>> ((0 : Int32) &&& 31) : Int32) = nI n from sb_shr0 _]
  exact GoI.end hx hb hr hlocks dJ0_length_8abf5_10 rfl rfl

def rmJ0_isLatin1_aae02 : Room := { frames := 1, cells := 0, slots := 0, locals := 60 }
set_option maxHeartbeats 4000000 in
set_option maxRecDepth 100000 in
theorem kJ0_isLatin1_aae02 (l : Launch) (G : GT) (q b n : Nat) (a : Nat → Int32) : Met l yJ0_isLatin1_aae02 wsJ0_isLatin1_aae02 rmJ0_isLatin1_aae02 (va_Pc [.ref q] (yP G [str q b, byt G b n a])) (vp_Si (fun v => v = 1)) 0 0 (fun _ => False) := by
  refine Met.ofW (cc := cJ0_isLatin1_aae02) (maxL := 1) (ret := (some .boolean)) (by decide) rfl ?_
  intro p e s mt args below meth c s₁ B hml hv
  obtain ⟨rfl, ⟨hP, hK⟩, hZ⟩ := hv
  have bx := bx_of B hml
  have hS : va_S (fun _ => False) s.heap s.heap [] := va_S.rf
  obtain ⟨hx, hb, hr, hts, hown, hml, hlocks⟩ := id bx
  have hl := lv_entry ([.ref q]) (n := 1) (Nat.le_of_ble_eq_true rfl)
  rw [lg_entry_eq]
  generalize (lg_sl ([.ref q]) ++ List.replicate (1 - (lg_sl ([.ref q])).length) Slot.unset).toArray = ls at hl ⊢
  have hl : lv_has ls 1 [(0, .ref q)] := hl
  show GoI p l e rmJ0_isLatin1_aae02 s mt _ below meth c _ (F0 mt 0 ls [])
  refine va_gets hx hb hZ.1 hS hown (w_mem hts 1 rfl) (fun _ h9 => h9) dJ0_isLatin1_aae02_0 ?_
  refine lv_if_eq (tgt := 17) hx hb dJ0_isLatin1_aae02_3 (by decide) (fun c_ => absurd c_ (by decide : ¬ (1 : Int32) = 0)) (fun _ => ?_)
  refine lv_aload_n hx hb dJ0_isLatin1_aae02_6 rfl (lv_at hl 0 rfl) ?_
  refine va_get (D := G.1) (ci := 0) (v := .int 0) (C := RJ0) (T := TJ0) (N := 4) hx hb hts (by decide +kernel) hown hK.1 hP 0 rfl rfl 1 (by decide) (w_mem hts 2 rfl) (fun _ h9 => h9) rfl dJ0_isLatin1_aae02_7 ?_
  refine lv_if_ne (tgt := 17) hx hb dJ0_isLatin1_aae02_10 (by decide) (fun c_ => absurd (rfl : (0 : Int32) = 0) c_) (fun _ => ?_)
  refine lv_iconst (v := 1) hx hb dJ0_isLatin1_aae02_13 (by decide) ?_
  refine lv_goto (tgt := 18) hx hb dJ0_isLatin1_aae02_14 (by decide) ?_
  exact GoI.end hx hb hr hlocks dJ0_isLatin1_aae02_18 rfl rfl

def rmJ3_checkIndex_8e157 : Room := { frames := 1, cells := 0, slots := 0, locals := 60 }
set_option maxHeartbeats 4000000 in
set_option maxRecDepth 100000 in
theorem kJ3_checkIndex_8e157N (l : Launch) (i n : Nat) (hi : i < n) (hn : n < 2 ^ 31) : Met l yJ3_checkIndex_8e157 wsJ3_checkIndex_8e157 rmJ3_checkIndex_8e157 (va_Pc [.int (nI i), .int (nI n), .null] noP) (vp_Si (fun v => v = nI i)) 0 0 (fun _ => False) := by
  refine Met.ofW (cc := cJ3_checkIndex_8e157) (maxL := 3) (ret := (some .int)) (by decide) rfl ?_
  intro p e s mt args below meth c s₁ B hml hv
  obtain ⟨rfl, -⟩ := hv
  have bx := bx_of B hml
  obtain ⟨hx, hb, hr, hts, hown, hml, hlocks⟩ := id bx
  have hl := lv_entry ([.int (nI i), .int (nI n), .null]) (n := 3) (Nat.le_of_ble_eq_true rfl)
  rw [lg_entry_eq]
  generalize (lg_sl ([.int (nI i), .int (nI n), .null]) ++ List.replicate (3 - (lg_sl ([.int (nI i), .int (nI n), .null])).length) Slot.unset).toArray = ls at hl ⊢
  have hl : lv_has ls 3 [(0, .int (nI i)), (1, .int (nI n)), (2, .null)] := hl
  show GoI p l e rmJ3_checkIndex_8e157 s mt _ below meth c _ (F0 mt 0 ls [])
  refine lv_iload_n hx hb dJ3_checkIndex_8e157_0 rfl (lv_at hl 0 rfl) ?_
  refine lv_if_lt (tgt := 9) hx hb dJ3_checkIndex_8e157_1 (by decide) (fun c_ => absurd c_ (nI_pos (by omega) : ¬ nI i < 0)) (fun _ => ?_)
  refine lv_iload_n hx hb dJ3_checkIndex_8e157_4 rfl (lv_at hl 0 rfl) ?_
  refine lv_iload_n hx hb dJ3_checkIndex_8e157_5 rfl (lv_at hl 1 rfl) ?_
  refine lv_icmp_lt (tgt := 16) hx hb dJ3_checkIndex_8e157_6 (by decide) (fun _ => ?_) (fun c_ => absurd (nI_lt hi hn) c_)
  refine lv_iload_n hx hb dJ3_checkIndex_8e157_16 rfl (lv_at hl 0 rfl) ?_
  exact GoI.end hx hb hr hlocks dJ3_checkIndex_8e157_17 rfl rfl

set_option maxHeartbeats 4000000 in
set_option maxRecDepth 100000 in
theorem kJ3_checkIndex_8e157 (l : Launch) (i n : Nat) (t : Nat) (hi : i < n) (hn : n < 2 ^ 31) : Met l yJ3_checkIndex_8e157 wsJ3_checkIndex_8e157 rmJ3_checkIndex_8e157 (va_Pc [.int (nI i), .int (nI n), .ref t] noP) (vp_Si (fun v => v = nI i)) 0 0 (fun _ => False) := by
  refine Met.ofW (cc := cJ3_checkIndex_8e157) (maxL := 3) (ret := (some .int)) (by decide) rfl ?_
  intro p e s mt args below meth c s₁ B hml hv
  obtain ⟨rfl, -⟩ := hv
  have bx := bx_of B hml
  obtain ⟨hx, hb, hr, hts, hown, hml, hlocks⟩ := id bx
  have hl := lv_entry ([.int (nI i), .int (nI n), .ref t]) (n := 3) (Nat.le_of_ble_eq_true rfl)
  rw [lg_entry_eq]
  generalize (lg_sl ([.int (nI i), .int (nI n), .ref t]) ++ List.replicate (3 - (lg_sl ([.int (nI i), .int (nI n), .ref t])).length) Slot.unset).toArray = ls at hl ⊢
  have hl : lv_has ls 3 [(0, .int (nI i)), (1, .int (nI n)), (2, .ref t)] := hl
  show GoI p l e rmJ3_checkIndex_8e157 s mt _ below meth c _ (F0 mt 0 ls [])
  refine lv_iload_n hx hb dJ3_checkIndex_8e157_0 rfl (lv_at hl 0 rfl) ?_
  refine lv_if_lt (tgt := 9) hx hb dJ3_checkIndex_8e157_1 (by decide) (fun c_ => absurd c_ (nI_pos (by omega) : ¬ nI i < 0)) (fun _ => ?_)
  refine lv_iload_n hx hb dJ3_checkIndex_8e157_4 rfl (lv_at hl 0 rfl) ?_
  refine lv_iload_n hx hb dJ3_checkIndex_8e157_5 rfl (lv_at hl 1 rfl) ?_
  refine lv_icmp_lt (tgt := 16) hx hb dJ3_checkIndex_8e157_6 (by decide) (fun _ => ?_) (fun c_ => absurd (nI_lt hi hn) c_)
  refine lv_iload_n hx hb dJ3_checkIndex_8e157_16 rfl (lv_at hl 0 rfl) ?_
  exact GoI.end hx hb hr hlocks dJ3_checkIndex_8e157_17 rfl rfl

def rmJ0_checkIndex_df160 : Room := { frames := 2, cells := 0, slots := 0, locals := 82 }
set_option maxHeartbeats 4000000 in
set_option maxRecDepth 100000 in
theorem kJ0_checkIndex_df160 (l : Launch) (G : GT) (i n : Nat) (hi : i < n) (hn : n < 2 ^ 31) : Met l yJ0_checkIndex_df160 wsJ0_checkIndex_df160 rmJ0_checkIndex_df160 (va_Pc [.int (nI i), .int (nI n)] (yP G [])) (va_Sv (fun _ => True)) 0 0 (fun _ => False) := by
  refine Met.ofW (cc := cJ0_checkIndex_df160) (maxL := 2) (ret := none) (by decide) rfl ?_
  intro p e s mt args below meth c s₁ B hml hv
  obtain ⟨rfl, ⟨hP, hK⟩, hZ⟩ := hv
  have bx := bx_of B hml
  have hS : va_S (fun _ => False) s.heap s.heap [] := va_S.rf
  obtain ⟨hx, hb, hr, hts, hown, hml, hlocks⟩ := id bx
  have hl := lv_entry ([.int (nI i), .int (nI n)]) (n := 2) (Nat.le_of_ble_eq_true rfl)
  rw [lg_entry_eq]
  generalize (lg_sl ([.int (nI i), .int (nI n)]) ++ List.replicate (2 - (lg_sl ([.int (nI i), .int (nI n)])).length) Slot.unset).toArray = ls at hl ⊢
  have hl : lv_has ls 2 [(0, .int (nI i)), (1, .int (nI n))] := hl
  show GoV p l e rmJ0_checkIndex_df160 s mt _ below meth c () (F0 mt 0 ls [])
  refine lv_iload_n hx hb dJ0_checkIndex_df160_0 rfl (lv_at hl 0 rfl) ?_
  refine lv_iload_n hx hb dJ0_checkIndex_df160_1 rfl (lv_at hl 1 rfl) ?_
  rcases hZ.2.2.2.1 with hw | ⟨t, hw⟩
  · refine va_gets hx hb hw hS hown (w_mem hts 1 rfl) (fun _ h9 => h9) dJ0_checkIndex_df160_2 ?_
    refine ro_i (va_runS (As := [.int (nI i), .int (nI n), .null]) (rest := []) ⟨hx, hb, hml, hown, hts⟩ (kJ3_checkIndex_8e157N l i n hi hn) (va_cwS 3 hts gJ0_checkIndex_df160_J3_checkIndex_8e157 rfl rfl rfl (by decide +kernel) ⟨Nat.le_of_ble_eq_true rfl, Nat.le_of_ble_eq_true rfl⟩) noS rfl rfl hl.1 rfl (lv_room (Nat.le_of_ble_eq_true rfl)) dJ0_checkIndex_df160_5 ⟨Nat.le_of_ble_eq_true rfl, Nat.le_of_ble_eq_true rfl⟩) ?_
    refine lv_pop hx hb dJ0_checkIndex_df160_8 rfl ?_
    exact GoV.end (out := ()) hx hb hr hlocks dJ0_checkIndex_df160_9
  · refine va_gets hx hb hw hS hown (w_mem hts 1 rfl) (fun _ h9 => h9) dJ0_checkIndex_df160_2 ?_
    refine ro_i (va_runS (As := [.int (nI i), .int (nI n), .ref t]) (rest := []) ⟨hx, hb, hml, hown, hts⟩ (kJ3_checkIndex_8e157 l i n t hi hn) (va_cwS 3 hts gJ0_checkIndex_df160_J3_checkIndex_8e157 rfl rfl rfl (by decide +kernel) ⟨Nat.le_of_ble_eq_true rfl, Nat.le_of_ble_eq_true rfl⟩) noS rfl rfl hl.1 rfl (lv_room (Nat.le_of_ble_eq_true rfl)) dJ0_checkIndex_df160_5 ⟨Nat.le_of_ble_eq_true rfl, Nat.le_of_ble_eq_true rfl⟩) ?_
    refine lv_pop hx hb dJ0_checkIndex_df160_8 rfl ?_
    exact GoV.end (out := ()) hx hb hr hlocks dJ0_checkIndex_df160_9

def rmJ1_charAt_3b067 : Room := { frames := 3, cells := 0, slots := 0, locals := 103 }
set_option maxHeartbeats 4000000 in
set_option maxRecDepth 100000 in
theorem kJ1_charAt_3b067 (l : Launch) (G : GT) (b n i : Nat) (a : Nat → Int32) (hi : i < n) (hn : n ≤ 70) (ha : Asc a) : Met l yJ1_charAt_3b067 wsJ1_charAt_3b067 rmJ1_charAt_3b067 (va_Pc [.ref b, .int (nI i)] (yP G [byt G b n a])) (vp_Si (fun v => v = a i)) 0 0 (fun _ => False) := by
  refine Met.ofW (cc := cJ1_charAt_3b067) (maxL := 2) (ret := (some .char)) (by decide) rfl ?_
  intro p e s mt args below meth c s₁ B hml hv
  obtain ⟨rfl, ⟨hP, hK⟩, hZ⟩ := hv
  have bx := bx_of B hml
  have hS : va_S (fun _ => False) s.heap s.heap [] := va_S.rf
  obtain ⟨hx, hb, hr, hts, hown, hml, hlocks⟩ := id bx
  have hl := lv_entry ([.ref b, .int (nI i)]) (n := 2) (Nat.le_of_ble_eq_true rfl)
  rw [lg_entry_eq]
  generalize (lg_sl ([.ref b, .int (nI i)]) ++ List.replicate (2 - (lg_sl ([.ref b, .int (nI i)])).length) Slot.unset).toArray = ls at hl ⊢
  have hl : lv_has ls 2 [(0, .ref b), (1, .int (nI i))] := hl
  show GoI p l e rmJ1_charAt_3b067 s mt _ below meth c _ (F0 mt 0 ls [])
  obtain ⟨k, hk, ek⟩ := ha i
  refine lv_iload_n hx hb dJ1_charAt_3b067_0 rfl (lv_at hl 1 rfl) ?_
  refine lv_aload_n hx hb dJ1_charAt_3b067_1 rfl (lv_at hl 0 rfl) ?_
  refine va_alen (D := G.1) hx hb hK.1 hP 0 4 rfl rfl (v := nI n) rfl dJ1_charAt_3b067_2 ?_
  refine ro_v (va_runS (As := [.int (nI i), .int (nI n)]) (rest := []) ⟨hx, hb, hml, hown, hts⟩ (kJ0_checkIndex_df160 l G i n hi (by omega)) (va_cwS 2 hts gJ1_charAt_3b067_J0_checkIndex_df160 rfl rfl rfl (by decide +kernel) ⟨Nat.le_of_ble_eq_true rfl, Nat.le_of_ble_eq_true rfl⟩) (yS (hP.sub (ws' := []) [] rfl) hS hK hZ) rfl rfl hl.1 rfl (lv_room (Nat.le_of_ble_eq_true rfl)) dJ1_charAt_3b067_3 ⟨Nat.le_of_ble_eq_true rfl, Nat.le_of_ble_eq_true rfl⟩) ?_
  refine lv_aload_n hx hb dJ1_charAt_3b067_6 rfl (lv_at hl 0 rfl) ?_
  refine lv_iload_n hx hb dJ1_charAt_3b067_7 rfl (lv_at hl 1 rfl) ?_
  refine va_bald (D := G.1) hx hb hK.1 hP 0 4 rfl rfl (vp_in_nI hi (by omega)) dJ1_charAt_3b067_8 ?_
  rw [nI_clamp (n := i) (by omega), ek]
  refine lv_sipush (v := 255) hx hb dJ1_charAt_3b067_9 (by decide) ?_
  refine lv_iand hx hb dJ1_charAt_3b067_12 ?_
  refine lv_i2c (v := (((nI k) &&& 255).toUInt32 % 65536).toInt32) hx hb dJ1_charAt_3b067_13 rfl ?_
  rw [show ((((nI k) &&& 255).toUInt32 % 65536).toInt32 : Int32) = nI k from (byt7 k hk).2.2.1]
  exact GoI.end hx hb hr hlocks dJ1_charAt_3b067_14 (byt7 k hk).2.2.2.2 rfl

def rmJ0_charAt_5068e : Room := { frames := 4, cells := 0, slots := 0, locals := 124 }
set_option maxHeartbeats 4000000 in
set_option maxRecDepth 100000 in
theorem kJ0_charAt_5068e (l : Launch) (G : GT) (q b n i : Nat) (a : Nat → Int32) (hi : i < n) (hn : n ≤ 70) (ha : Asc a) : Met l yJ0_charAt_5068e wsJ0_charAt_5068e rmJ0_charAt_5068e (va_Pc [.ref q, .int (nI i)] (yP G [str q b, byt G b n a])) (vp_Si (fun v => v = a i)) 0 0 (fun _ => False) := by
  refine Met.ofW (cc := cJ0_charAt_5068e) (maxL := 2) (ret := (some .char)) (by decide) rfl ?_
  intro p e s mt args below meth c s₁ B hml hv
  obtain ⟨rfl, ⟨hP, hK⟩, hZ⟩ := hv
  have bx := bx_of B hml
  have hS : va_S (fun _ => False) s.heap s.heap [] := va_S.rf
  obtain ⟨hx, hb, hr, hts, hown, hml, hlocks⟩ := id bx
  have hl := lv_entry ([.ref q, .int (nI i)]) (n := 2) (Nat.le_of_ble_eq_true rfl)
  rw [lg_entry_eq]
  generalize (lg_sl ([.ref q, .int (nI i)]) ++ List.replicate (2 - (lg_sl ([.ref q, .int (nI i)])).length) Slot.unset).toArray = ls at hl ⊢
  have hl : lv_has ls 2 [(0, .ref q), (1, .int (nI i))] := hl
  show GoI p l e rmJ0_charAt_5068e s mt _ below meth c _ (F0 mt 0 ls [])
  obtain ⟨k, hk, ek⟩ := ha i
  refine lv_aload_n hx hb dJ0_charAt_5068e_0 rfl (lv_at hl 0 rfl) ?_
  refine ro_i (va_runV (As := []) (rest := []) ⟨hx, hb, hml, hown, hts⟩ (kJ0_isLatin1_aae02 l G q b n a) (cwV 0 hts gJ0_charAt_5068e_J0_isLatin1_aae02 rfl rfl rfl (by decide +kernel) ⟨Nat.le_of_ble_eq_true rfl, Nat.le_of_ble_eq_true rfl⟩) (yV hP hS hK hZ 0 0 rfl rfl) rfl rfl hl.1 rfl (lv_room (Nat.le_of_ble_eq_true rfl)) dJ0_charAt_5068e_1 ⟨Nat.le_of_ble_eq_true rfl, Nat.le_of_ble_eq_true rfl⟩) ?_
  refine lv_if_eq (tgt := 16) hx hb dJ0_charAt_5068e_4 (by decide) (fun c_ => absurd c_ (by decide : ¬ (1 : Int32) = 0)) (fun _ => ?_)
  refine lv_aload_n hx hb dJ0_charAt_5068e_7 rfl (lv_at hl 0 rfl) ?_
  refine va_get (D := G.1) (ci := 0) (v := .ref b) (C := RJ0) (T := TJ0) (N := 4) hx hb hts (by decide +kernel) hown hK.1 hP 0 rfl rfl 0 (by decide) (w_mem hts 1 rfl) (fun _ h9 => h9) rfl dJ0_charAt_5068e_8 ?_
  refine lv_iload_n hx hb dJ0_charAt_5068e_11 rfl (lv_at hl 1 rfl) ?_
  refine ro_i (va_runS (As := [.ref b, .int (nI i)]) (rest := []) ⟨hx, hb, hml, hown, hts⟩ (kJ1_charAt_3b067 l G b n i a hi hn ha) (va_cwS 2 hts gJ0_charAt_5068e_J1_charAt_3b067 rfl rfl rfl (by decide +kernel) ⟨Nat.le_of_ble_eq_true rfl, Nat.le_of_ble_eq_true rfl⟩) (yS (hP.sub (ws' := [byt G b n a]) [1] rfl) hS hK hZ) rfl rfl hl.1 rfl (lv_room (Nat.le_of_ble_eq_true rfl)) dJ0_charAt_5068e_12 ⟨Nat.le_of_ble_eq_true rfl, Nat.le_of_ble_eq_true rfl⟩) ?_
  exact GoI.end hx hb hr hlocks dJ0_charAt_5068e_15 (by rw [ek]; exact (byt7 k hk).2.2.2.2) rfl
