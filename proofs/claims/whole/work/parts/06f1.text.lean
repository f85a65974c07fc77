def rmJ5_isLatin1_aae02 : Room := { frames := 1, cells := 0, slots := 0, locals := 60 }
set_option maxHeartbeats 4000000 in
set_option maxRecDepth 100000 in
theorem kJ5_isLatin1_aae02 (l : Launch) (G : GT) (q b n m : Nat) (a : Nat → Int32) : Met l yJ5_isLatin1_aae02 wsJ5_isLatin1_aae02 rmJ5_isLatin1_aae02 (va_Pc [.ref q] (yP G [bld q b n, byt G b m a])) (vp_Si (fun v => v = 1)) 0 0 (fun _ => False) := by
  refine Met.ofW (cc := cJ5_isLatin1_aae02) (maxL := 1) (ret := (some .boolean)) (by decide) rfl ?_
  intro p e s mt args below meth c s₁ B hml hv
  obtain ⟨rfl, ⟨hP, hK⟩, hZ⟩ := hv
  have bx := bx_of B hml
  have hS : va_S (fun _ => False) s.heap s.heap [] := va_S.rf
  obtain ⟨hx, hb, hr, hts, hown, hml, hlocks⟩ := id bx
  have hl := lv_entry ([.ref q]) (n := 1) (Nat.le_of_ble_eq_true rfl)
  rw [lg_entry_eq]
  generalize (lg_sl ([.ref q]) ++ List.replicate (1 - (lg_sl ([.ref q])).length) Slot.unset).toArray = ls at hl ⊢
  have hl : lv_has ls 1 [(0, .ref q)] := hl
  show GoI p l e rmJ5_isLatin1_aae02 s mt _ below meth c _ (F0 mt 0 ls [])
  refine va_gets hx hb hZ.1 hS hown (w_mem hts 1 rfl) (fun _ h9 => h9) dJ5_isLatin1_aae02_0 ?_
  refine lv_if_eq (tgt := 17) hx hb dJ5_isLatin1_aae02_3 (by decide) (fun c_ => absurd c_ (by decide : ¬ (1 : Int32) = 0)) (fun _ => ?_)
  refine lv_aload_n hx hb dJ5_isLatin1_aae02_6 rfl (lv_at hl 0 rfl) ?_
  refine va_get (D := G.1) (ci := 1) (v := .int 0) (C := RJ4) (T := TJ4) (N := 4) hx hb hts (by decide +kernel) hown hK.1 hP 0 rfl rfl 1 (by decide) (w_mem hts 2 rfl) (fun _ h9 => h9) rfl dJ5_isLatin1_aae02_7 ?_
  refine lv_if_ne (tgt := 17) hx hb dJ5_isLatin1_aae02_10 (by decide) (fun c_ => absurd (rfl : (0 : Int32) = 0) c_) (fun _ => ?_)
  refine lv_iconst (v := 1) hx hb dJ5_isLatin1_aae02_13 (by decide) ?_
  refine lv_goto (tgt := 18) hx hb dJ5_isLatin1_aae02_14 (by decide) ?_
  exact GoI.end hx hb hr hlocks dJ5_isLatin1_aae02_18 rfl rfl

def rmJ1_canEncode_fc78d : Room := { frames := 1, cells := 0, slots := 0, locals := 60 }
set_option maxHeartbeats 4000000 in
set_option maxRecDepth 100000 in
theorem kJ1_canEncode_fc78d (l : Launch) (k : Nat) (hk : k < 128) : Met l yJ1_canEncode_fc78d wsJ1_canEncode_fc78d rmJ1_canEncode_fc78d (va_Pc [.int (nI k)] noP) (vp_Si (fun v => v = 1)) 0 0 (fun _ => False) := by
  refine Met.ofW (cc := cJ1_canEncode_fc78d) (maxL := 1) (ret := (some .boolean)) (by decide) rfl ?_
  intro p e s mt args below meth c s₁ B hml hv
  obtain ⟨rfl, -⟩ := hv
  have bx := bx_of B hml
  obtain ⟨hx, hb, hr, hts, hown, hml, hlocks⟩ := id bx
  have hl := lv_entry ([.int (nI k)]) (n := 1) (Nat.le_of_ble_eq_true rfl)
  rw [lg_entry_eq]
  generalize (lg_sl ([.int (nI k)]) ++ List.replicate (1 - (lg_sl ([.int (nI k)])).length) Slot.unset).toArray = ls at hl ⊢
  have hl : lv_has ls 1 [(0, .int (nI k))] := hl
  show GoI p l e rmJ1_canEncode_fc78d s mt _ below meth c _ (F0 mt 0 ls [])
  refine lv_iload_n hx hb dJ1_canEncode_fc78d_0 rfl (lv_at hl 0 rfl) ?_
  refine lv_sipush (v := 255) hx hb dJ1_canEncode_fc78d_1 (by decide) ?_
  refine lv_icmp_gt (tgt := 11) hx hb dJ1_canEncode_fc78d_4 (by decide) (fun c_ => absurd c_ (show ¬ (255 : Int32) < nI k from nI_nlt (a := 255) (by omega) (by decide))) (fun _ => ?_)
  refine lv_iconst (v := 1) hx hb dJ1_canEncode_fc78d_7 (by decide) ?_
  refine lv_goto (tgt := 12) hx hb dJ1_canEncode_fc78d_8 (by decide) ?_
  exact GoI.end hx hb hr hlocks dJ1_canEncode_fc78d_12 rfl rfl

def rmJ8_newLength_cabcc : Room := { frames := 1, cells := 0, slots := 0, locals := 60 }
set_option maxHeartbeats 4000000 in
set_option maxRecDepth 100000 in
theorem kJ8_newLength_cabcc (l : Launch) (m x y : Nat) (hxy : x ≤ y) (hy : m + y < 1000) (h0 : 0 < y) : Met l yJ8_newLength_cabcc wsJ8_newLength_cabcc rmJ8_newLength_cabcc (va_Pc [.int (nI m), .int (nI x), .int (nI y)] noP) (vp_Si (fun v => v = nI (m + y))) 0 0 (fun _ => False) := by
  refine Met.ofW (cc := cJ8_newLength_cabcc) (maxL := 4) (ret := (some .int)) (by decide) rfl ?_
  intro p e s mt args below meth c s₁ B hml hv
  obtain ⟨rfl, -⟩ := hv
  have bx := bx_of B hml
  obtain ⟨hx, hb, hr, hts, hown, hml, hlocks⟩ := id bx
  have hl := lv_entry ([.int (nI m), .int (nI x), .int (nI y)]) (n := 4) (Nat.le_of_ble_eq_true rfl)
  rw [lg_entry_eq]
  generalize (lg_sl ([.int (nI m), .int (nI x), .int (nI y)]) ++ List.replicate (4 - (lg_sl ([.int (nI m), .int (nI x), .int (nI y)])).length) Slot.unset).toArray = ls at hl ⊢
  have hl : lv_has ls 4 [(0, .int (nI m)), (1, .int (nI x)), (2, .int (nI y))] := hl
  show GoI p l e rmJ8_newLength_cabcc s mt _ below meth c _ (F0 mt 0 ls [])
  refine lv_iload_n hx hb dJ8_newLength_cabcc_0 rfl (lv_at hl 0 rfl) ?_
  refine lv_iload_n hx hb dJ8_newLength_cabcc_1 rfl (lv_at hl 1 rfl) ?_
  refine lv_iload_n hx hb dJ8_newLength_cabcc_2 rfl (lv_at hl 2 rfl) ?_
  refine va_mmax hx hb (hml.trans hl.1.symm) hown (w_mem hts 1 rfl) (w_mem hts 2 rfl) (w_mem hts 3 rfl) (w_mem hts 4 rfl) (Nat.le_of_ble_eq_true rfl) (Nat.le_of_ble_eq_true rfl) (Nat.zero_le _) (Nat.zero_le _) dJ8_newLength_cabcc_3 ?_
  rw [show (if nI x < nI y then nI y else nI x : Int32) = nI y from mxI hxy (by omega)]
  refine lv_iadd hx hb dJ8_newLength_cabcc_6 ?_
  rw [show ((nI m) + (nI y) : Int32) = nI (m + y) from nI_add m y]
  refine lv_istore_n (lv' := [(3, .int (nI (m + y))), (0, .int (nI m)), (1, .int (nI x)), (2, .int (nI y))]) hx hb dJ8_newLength_cabcc_7 rfl hl (by decide) rfl (fun ls hl => ?_)
  refine lv_iconst (v := 0) hx hb dJ8_newLength_cabcc_8 (by decide) ?_
  refine lv_iload_n hx hb dJ8_newLength_cabcc_9 rfl (lv_at hl 0 rfl) ?_
  refine lv_icmp_ge (tgt := 21) hx hb dJ8_newLength_cabcc_10 (by decide) (fun c_ => absurd c_ (show ¬ nI (m + y) ≤ 0 from nI_nle (by omega) (by omega))) (fun _ => ?_)
  refine lv_iload_n hx hb dJ8_newLength_cabcc_13 rfl (lv_at hl 0 rfl) ?_
  refine lv_ldc (own := RJ8) (v := 2147483639) hx hb hown (w_mem hts 5 rfl) dJ8_newLength_cabcc_14 ?_
  refine lv_icmp_gt (tgt := 21) hx hb dJ8_newLength_cabcc_16 (by decide) (fun c_ => absurd c_ (show ¬ (2147483639 : Int32) < nI (m + y) from nI_nlt (a := 2147483639) (by omega) (by decide))) (fun _ => ?_)
  refine lv_iload_n hx hb dJ8_newLength_cabcc_19 rfl (lv_at hl 0 rfl) ?_
  exact GoI.end hx hb hr hlocks dJ8_newLength_cabcc_20 rfl rfl

def rmJ5_newCapacity_0f7a4 : Room := { frames := 2, cells := 0, slots := 0, locals := 83 }
set_option maxHeartbeats 4000000 in
set_option maxRecDepth 100000 in
theorem kJ5_newCapacity_0f7a4 (l : Launch) (G : GT) (q b n m k : Nat) (a : Nat → Int32) (hm : m ≤ 70) (hk : m < k) (hk2 : k ≤ 2 * m + 2) : Met l yJ5_newCapacity_0f7a4 wsJ5_newCapacity_0f7a4 rmJ5_newCapacity_0f7a4 (va_Pc [.ref q, .int (nI k)] (yP G [bld q b n, byt G b m a])) (vp_Si (fun v => v = nI (2 * m + 2))) 0 0 (fun _ => False) := by
  refine Met.ofW (cc := cJ5_newCapacity_0f7a4) (maxL := 6) (ret := (some .int)) (by decide) rfl ?_
  intro p e s mt args below meth c s₁ B hml hv
  obtain ⟨rfl, ⟨hP, hK⟩, hZ⟩ := hv
  have bx := bx_of B hml
  have hS : va_S (fun _ => False) s.heap s.heap [] := va_S.rf
  obtain ⟨hx, hb, hr, hts, hown, hml, hlocks⟩ := id bx
  have hl := lv_entry ([.ref q, .int (nI k)]) (n := 6) (Nat.le_of_ble_eq_true rfl)
  rw [lg_entry_eq]
  generalize (lg_sl ([.ref q, .int (nI k)]) ++ List.replicate (6 - (lg_sl ([.ref q, .int (nI k)])).length) Slot.unset).toArray = ls at hl ⊢
  have hl : lv_has ls 6 [(0, .ref q), (1, .int (nI k))] := hl
  show GoI p l e rmJ5_newCapacity_0f7a4 s mt _ below meth c _ (F0 mt 0 ls [])
  refine lv_aload_n hx hb dJ5_newCapacity_0f7a4_0 rfl (lv_at hl 0 rfl) ?_
  refine va_get (D := G.1) (ci := 1) (v := .ref b) (C := RJ4) (T := TJ4) (N := 4) hx hb hts (by decide +kernel) hown hK.1 hP 0 rfl rfl 0 (by decide) (w_mem hts 1 rfl) (fun _ h9 => h9) rfl dJ5_newCapacity_0f7a4_1 ?_
  refine va_alen (D := G.1) hx hb hK.1 hP 1 4 rfl rfl (v := nI m) rfl dJ5_newCapacity_0f7a4_4 ?_
  refine lv_istore_n (lv' := [(2, .int (nI m)), (0, .ref q), (1, .int (nI k))]) hx hb dJ5_newCapacity_0f7a4_5 rfl hl (by decide) rfl (fun ls hl => ?_)
  refine lv_iload_n hx hb dJ5_newCapacity_0f7a4_6 rfl (lv_at hl 2 rfl) ?_
  refine lv_aload_n hx hb dJ5_newCapacity_0f7a4_7 rfl (lv_at hl 1 rfl) ?_
  refine va_get (D := G.1) (ci := 1) (v := .int 0) (C := RJ4) (T := TJ4) (N := 4) hx hb hts (by decide +kernel) hown hK.1 hP 0 rfl rfl 1 (by decide) (w_mem hts 2 rfl) (fun _ h9 => h9) rfl dJ5_newCapacity_0f7a4_8 ?_
  refine lv_ishl hx hb dJ5_newCapacity_0f7a4_11 ?_
  rw [show ((nI k) <<< ((0 : Int32) &&& 31) : Int32) = nI k from sb_shl0 _]
  refine lv_istore_n (lv' := [(3, .int (nI k)), (2, .int (nI m)), (0, .ref q), (1, .int (nI k))]) hx hb dJ5_newCapacity_0f7a4_12 rfl hl (by decide) rfl (fun ls hl => ?_)
  refine lv_iload_n hx hb dJ5_newCapacity_0f7a4_13 rfl (lv_at hl 0 rfl) ?_
  refine lv_iload_n hx hb dJ5_newCapacity_0f7a4_14 rfl (lv_at hl 1 rfl) ?_
  refine lv_isub hx hb dJ5_newCapacity_0f7a4_15 ?_
  rw [show ((nI k) - (nI m) : Int32) = nI (k - m) from pk_sub (by omega)]
  refine lv_istore (lv' := [(4, .int (nI (k - m))), (3, .int (nI k)), (2, .int (nI m)), (0, .ref q), (1, .int (nI k))]) hx hb dJ5_newCapacity_0f7a4_16 hl (by decide) rfl (fun ls hl => ?_)
  refine lv_iload_n hx hb dJ5_newCapacity_0f7a4_18 rfl (lv_at hl 2 rfl) ?_
  refine lv_iload hx hb dJ5_newCapacity_0f7a4_19 (lv_at hl 0 rfl) ?_
  refine lv_iload_n hx hb dJ5_newCapacity_0f7a4_21 rfl (lv_at hl 2 rfl) ?_
  refine lv_iconst (v := 2) hx hb dJ5_newCapacity_0f7a4_22 (by decide) ?_
  refine lv_aload_n hx hb dJ5_newCapacity_0f7a4_23 rfl (lv_at hl 3 rfl) ?_
  refine va_get (D := G.1) (ci := 1) (v := .int 0) (C := RJ4) (T := TJ4) (N := 4) hx hb hts (by decide +kernel) hown hK.1 hP 0 rfl rfl 1 (by decide) (w_mem hts 2 rfl) (fun _ h9 => h9) rfl dJ5_newCapacity_0f7a4_24 ?_
  refine lv_ishl hx hb dJ5_newCapacity_0f7a4_27 ?_
  rw [show (2 <<< ((0 : Int32) &&& 31) : Int32) = 2 from sb_shl0 _]
  refine lv_iadd hx hb dJ5_newCapacity_0f7a4_28 ?_
  rw [show ((nI m) + 2 : Int32) = nI (m + 2) from nI_add m 2]
  refine ro_i (va_runS (As := [.int (nI m), .int (nI (k - m)), .int (nI (m + 2))]) (rest := []) ⟨hx, hb, hml, hown, hts⟩ (kJ8_newLength_cabcc l m (k - m) (m + 2) (by omega) (by omega) (by omega)) (va_cwS 3 hts gJ5_newCapacity_0f7a4_J8_newLength_cabcc rfl rfl rfl (by decide +kernel) ⟨Nat.le_of_ble_eq_true rfl, Nat.le_of_ble_eq_true rfl⟩) noS rfl rfl hl.1 rfl (lv_room (Nat.le_of_ble_eq_true rfl)) dJ5_newCapacity_0f7a4_29 ⟨Nat.le_of_ble_eq_true rfl, Nat.le_of_ble_eq_true rfl⟩) ?_
  rw [show (nI (m + (m + 2)) : Int32) = nI (2 * m + 2) from congrArg nI (by omega)]
  refine lv_istore (lv' := [(5, .int (nI (2 * m + 2))), (4, .int (nI (k - m))), (3, .int (nI k)), (2, .int (nI m)), (0, .ref q), (1, .int (nI k))]) hx hb dJ5_newCapacity_0f7a4_32 hl (by decide) rfl (fun ls hl => ?_)
  refine lv_iload hx hb dJ5_newCapacity_0f7a4_34 (lv_at hl 0 rfl) ?_
  refine lv_ldc (own := RJ5) (v := 2147483647) hx hb hown (w_mem hts 3 rfl) dJ5_newCapacity_0f7a4_36 ?_
  refine lv_icmp_ne (tgt := 51) hx hb dJ5_newCapacity_0f7a4_38 (by decide) (fun _ => ?_) (fun c_ => absurd c_ (show ¬ nI (2 * m + 2) = 2147483647 from fun h => by have := (nI_eq (a := 2 * m + 2) (b := 2147483647) (by omega) (by decide)).mp h; omega))
  refine lv_iload hx hb dJ5_newCapacity_0f7a4_51 (lv_at hl 0 rfl) ?_
  refine lv_aload_n hx hb dJ5_newCapacity_0f7a4_53 rfl (lv_at hl 4 rfl) ?_
  refine va_get (D := G.1) (ci := 1) (v := .int 0) (C := RJ4) (T := TJ4) (N := 4) hx hb hts (by decide +kernel) hown hK.1 hP 0 rfl rfl 1 (by decide) (w_mem hts 2 rfl) (fun _ h9 => h9) rfl dJ5_newCapacity_0f7a4_54 ?_
  refine lv_ishr hx hb dJ5_newCapacity_0f7a4_57 ?_
  rw [show ((nI (2 * m + 2)) >>> ((0 : Int32) &&& 31) : Int32) = nI (2 * m + 2) from sb_shr0 _]
  exact GoI.end hx hb hr hlocks dJ5_newCapacity_0f7a4_58 rfl rfl

def rmJ7_copyOf_9075b : Room := { frames := 1, cells := 1, slots := 70, locals := 60 }
set_option maxHeartbeats 4000000 in
set_option maxRecDepth 100000 in
theorem kJ7_copyOf_9075b (l : Launch) (G : GT) (b m k : Nat) (a : Nat → Int32) (sz : Nat) (ha : Asc a) (hm : m < k) (hk : k ≤ 70) : Met l yJ7_copyOf_9075b wsJ7_copyOf_9075b rmJ7_copyOf_9075b (va_Pc [.ref b, .int (nI k)] (zP G [byt G b m a] sz)) (va_Qr (fun u => u = va_cpy a zr 0 0 m) (fun u r t => va_P G.1 vwCl [byt G b m a, byt G r k u] t.heap ∧ va_D (va_A [byt G b m a] sz) [byt G b m a, byt G r k u]) (va_A [byt G b m a] sz)) 1 70 (va_A [byt G b m a] sz) := by
  refine Met.ofW (cc := cJ7_copyOf_9075b) (maxL := 3) (ret := (some (.array .byte))) (by decide) rfl ?_
  intro p e s mt args below meth c s₁ B hml hv
  obtain ⟨rfl, ⟨hsz, hP, hK, hD0⟩, hZ⟩ := hv
  have bx := bx_of B hml
  subst hsz
  have hD := hD0.self (sz := s.heap.size)
  generalize hAe : va_A [byt G b m a] s.heap.size = A at hD hZ ⊢
  have hA : ∀ q : Nat, s.heap.size ≤ q → A q := fun q h => by rw [← hAe]; exact Or.inr h
  have hS : va_S A s.heap s.heap [] := va_S.rf
  obtain ⟨hx, hb, hr, hts, hown, hml, hlocks⟩ := id bx
  have hl := lv_entry ([.ref b, .int (nI k)]) (n := 3) (Nat.le_of_ble_eq_true rfl)
  rw [lg_entry_eq]
  generalize (lg_sl ([.ref b, .int (nI k)]) ++ List.replicate (3 - (lg_sl ([.ref b, .int (nI k)])).length) Slot.unset).toArray = ls at hl ⊢
  have hl : lv_has ls 3 [(0, .ref b), (1, .int (nI k))] := hl
  show W p l e rmJ7_copyOf_9075b s mt _ below meth c s.heap [] 0 0 _ (F0 mt 0 ls [])
  refine lv_iload_n hx hb dJ7_copyOf_9075b_0 rfl (lv_at hl 1 rfl) ?_
  refine lv_aload_n hx hb dJ7_copyOf_9075b_1 rfl (lv_at hl 0 rfl) ?_
  refine va_alen (D := G.1) hx hb hK.1 hP 0 4 rfl rfl (v := nI m) rfl dJ7_copyOf_9075b_2 ?_
  refine lv_icmp_ne (tgt := 14) hx hb dJ7_copyOf_9075b_3 (by decide) (fun _ => ?_) (fun c_ => absurd c_ (show ¬ nI k = nI m from fun h => by have := (nI_eq (by omega) (by omega)).mp h; omega))
  refine lv_iload_n hx hb dJ7_copyOf_9075b_14 rfl (lv_at hl 1 rfl) ?_
  refine va_newa (D := G.1) (atype := .byte) hx hb (w_mem hts 7 rfl) rfl hK.1 hP hD hS hA (N' := k) (a0 := (k, .inl zr)) (fun _ => rfl) (nI_pos (by omega)) (nI_clamp (by omega)) (by show k * 1 ≤ 536870912; omega) (Nat.le_of_ble_eq_true rfl) (by show 0 + k ≤ 70; omega) dJ7_copyOf_9075b_15 (fun r cA H hK1 hP hD hS => ?_)
  have e9 := tyB hK1
  subst e9
  clear hK1
  have hP : va_P G.1 vwCl [(b, .inl (G.2 4, m, .inl a)), (r, .inl (G.2 4, k, .inl zr))] H := hP
  have hD : va_D A [(b, .inl (G.2 4, m, .inl a)), (r, .inl (G.2 4, k, .inl zr))] := hD
  refine lv_astore_n (lv' := [(2, .ref r), (0, .ref b), (1, .int (nI k))]) hx hb dJ7_copyOf_9075b_17 rfl hl (by decide) rfl (fun ls hl => ?_)
  refine lv_aload_n hx hb dJ7_copyOf_9075b_18 rfl (lv_at hl 1 rfl) ?_
  refine lv_iconst (v := 0) hx hb dJ7_copyOf_9075b_19 (by decide) ?_
  refine lv_aload_n hx hb dJ7_copyOf_9075b_20 rfl (lv_at hl 0 rfl) ?_
  refine lv_iconst (v := 0) hx hb dJ7_copyOf_9075b_21 (by decide) ?_
  refine lv_aload_n hx hb dJ7_copyOf_9075b_22 rfl (lv_at hl 1 rfl) ?_
  refine va_alen (D := G.1) hx hb hK.1 hP 0 4 rfl rfl (v := nI m) rfl dJ7_copyOf_9075b_23 ?_
  refine lv_iload_n hx hb dJ7_copyOf_9075b_24 rfl (lv_at hl 2 rfl) ?_
  refine va_mmin hx hb (hml.trans hl.1.symm) hown (w_mem hts 8 rfl) (w_mem hts 9 rfl) (w_mem hts 10 rfl) (w_mem hts 11 rfl) (Nat.le_of_ble_eq_true rfl) (Nat.le_of_ble_eq_true rfl) (Nat.le_of_ble_eq_true rfl) (by show 0 + _ ≤ 70; omega) dJ7_copyOf_9075b_25 ?_
  rw [show (if nI k < nI m then nI k else nI m : Int32) = nI m from mnI (by omega) (by omega)]
  refine va_copyi (D := G.1) hx hb (hml.trans hl.1.symm) hown (w_mem hts 12 rfl) (w_mem hts 13 rfl) (w_mem hts 14 rfl) (w_mem hts 15 rfl) hK.1 hP hD hS 0 1 4 4 rfl rfl rfl rfl rfl (by decide) (by decide) (nI_pos (by omega)) (by rw [nI_clamp (n := m) (by omega), sb_cl0]; omega) (by rw [nI_clamp (n := m) (by omega), sb_cl0]; omega) (fun _ _ => asc_fit ha _) (Nat.le_of_ble_eq_true rfl) (Nat.le_of_ble_eq_true rfl) dJ7_copyOf_9075b_28 (fun H locs hP hD hS => ?_)
  rw [nI_clamp (n := m) (by omega), sb_cl0] at hP hD
  have hP : va_P G.1 vwCl [(b, .inl (G.2 4, m, .inl a)), (r, .inl (G.2 4, k, .inl (va_cpy a zr 0 0 m)))] H := hP
  have hD : va_D A [(b, .inl (G.2 4, m, .inl a)), (r, .inl (G.2 4, k, .inl (va_cpy a zr 0 0 m)))] := hD
  refine lv_aload_n hx hb dJ7_copyOf_9075b_31 rfl (lv_at hl 0 rfl) ?_
  refine W.widen (k := 1) (n := 70) (by first | decide | omega) (by first | decide | omega) ?_
  exact W.aret hx hb hr (Or.inr ⟨_, rfl⟩) (Or.inr ⟨_, rfl⟩) (fun t ht _ => ⟨⟨_, _, rfl, rfl, by rw [ht]; exact hP, hD⟩, hS.F ht⟩) hS.2.2 dJ7_copyOf_9075b_32 hlocks

def rmJ5_ensureCapacityInternal_d00df : Room := { frames := 3, cells := 1, slots := 70, locals := 108 }
set_option maxHeartbeats 4000000 in
set_option maxRecDepth 100000 in
theorem kJ5_ensureCapacityInternal_d00df (l : Launch) (G : GT) (q b n m k : Nat) (a : Nat → Int32) (sz : Nat) (ha : Asc a) (hm : cp m) (hk : k ≤ 70) (hk2 : k ≤ 2 * m + 2) : Met l yJ5_ensureCapacityInternal_d00df wsJ5_ensureCapacityInternal_d00df rmJ5_ensureCapacityInternal_d00df (va_Pc [.ref q, .int (nI k)] (zP G [bld q b n, byt G b m a] sz)) (va_Qv (fun u : Nat × Nat × (Nat → Int32) => cp u.2.1 ∧ k ≤ u.2.1 ∧ m ≤ u.2.1 ∧ Asc u.2.2 ∧ ∀ i, i < m → u.2.2 i = a i) (fun u t => va_P G.1 vwCl [bld q u.1 n, byt G u.1 u.2.1 u.2.2] t.heap ∧ va_D (va_A [bld q b n, byt G b m a] sz) [bld q u.1 n, byt G u.1 u.2.1 u.2.2]) (va_A [bld q b n, byt G b m a] sz)) 1 70 (va_A [bld q b n, byt G b m a] sz) := by
  refine Met.ofW (cc := cJ5_ensureCapacityInternal_d00df) (maxL := 3) (ret := none) (by decide) rfl ?_
  intro p e s mt args below meth c s₁ B hml hv
  obtain ⟨rfl, ⟨hsz, hP, hK, hD0⟩, hZ⟩ := hv
  have bx := bx_of B hml
  subst hsz
  have hD := hD0.self (sz := s.heap.size)
  generalize hAe : va_A [bld q b n, byt G b m a] s.heap.size = A at hD hZ ⊢
  have hA : ∀ q : Nat, s.heap.size ≤ q → A q := fun q h => by rw [← hAe]; exact Or.inr h
  have hS : va_S A s.heap s.heap [] := va_S.rf
  obtain ⟨hx, hb, hr, hts, hown, hml, hlocks⟩ := id bx
  have hl := lv_entry ([.ref q, .int (nI k)]) (n := 3) (Nat.le_of_ble_eq_true rfl)
  rw [lg_entry_eq]
  generalize (lg_sl ([.ref q, .int (nI k)]) ++ List.replicate (3 - (lg_sl ([.ref q, .int (nI k)])).length) Slot.unset).toArray = ls at hl ⊢
  have hl : lv_has ls 3 [(0, .ref q), (1, .int (nI k))] := hl
  show W p l e rmJ5_ensureCapacityInternal_d00df s mt _ below meth c s.heap [] 0 0 _ (F0 mt 0 ls [])
  refine lv_aload_n hx hb dJ5_ensureCapacityInternal_d00df_0 rfl (lv_at hl 0 rfl) ?_
  refine va_get (D := G.1) (ci := 1) (v := .ref b) (C := RJ4) (T := TJ4) (N := 4) hx hb hts (by decide +kernel) hown hK.1 hP 0 rfl rfl 0 (by decide) (w_mem hts 1 rfl) (fun _ h9 => h9) rfl dJ5_ensureCapacityInternal_d00df_1 ?_
  refine va_alen (D := G.1) hx hb hK.1 hP 1 4 rfl rfl (v := nI m) rfl dJ5_ensureCapacityInternal_d00df_4 ?_
  refine lv_aload_n hx hb dJ5_ensureCapacityInternal_d00df_5 rfl (lv_at hl 0 rfl) ?_
  refine va_get (D := G.1) (ci := 1) (v := .int 0) (C := RJ4) (T := TJ4) (N := 4) hx hb hts (by decide +kernel) hown hK.1 hP 0 rfl rfl 1 (by decide) (w_mem hts 2 rfl) (fun _ h9 => h9) rfl dJ5_ensureCapacityInternal_d00df_6 ?_
  refine lv_ishr hx hb dJ5_ensureCapacityInternal_d00df_9 ?_
  rw [show ((nI m) >>> ((0 : Int32) &&& 31) : Int32) = nI m from sb_shr0 _]
  refine lv_istore_n (lv' := [(2, .int (nI m)), (0, .ref q), (1, .int (nI k))]) hx hb dJ5_ensureCapacityInternal_d00df_10 rfl hl (by decide) rfl (fun ls hl => ?_)
  refine lv_iload_n hx hb dJ5_ensureCapacityInternal_d00df_11 rfl (lv_at hl 2 rfl) ?_
  refine lv_iload_n hx hb dJ5_ensureCapacityInternal_d00df_12 rfl (lv_at hl 0 rfl) ?_
  refine lv_isub hx hb dJ5_ensureCapacityInternal_d00df_13 ?_
  have h70 := cp_70 hm
  rcases Nat.lt_or_ge m k with hc | hc
  · refine lv_if_le (tgt := 38) hx hb dJ5_ensureCapacityInternal_d00df_14 (by decide) (fun c_ => absurd c_ (show ¬ nI k - nI m ≤ 0 by rw [pk_sub (by omega)]; exact nI_nle (by omega) (by omega))) (fun _ => ?_)
    refine lv_aload_n hx hb dJ5_ensureCapacityInternal_d00df_17 rfl (lv_at hl 1 rfl) ?_
    refine lv_aload_n hx hb dJ5_ensureCapacityInternal_d00df_18 rfl (lv_at hl 1 rfl) ?_
    refine va_get (D := G.1) (ci := 1) (v := .ref b) (C := RJ4) (T := TJ4) (N := 4) hx hb hts (by decide +kernel) hown hK.1 hP 0 rfl rfl 0 (by decide) (w_mem hts 1 rfl) (fun _ h9 => h9) rfl dJ5_ensureCapacityInternal_d00df_19 ?_
    refine lv_aload_n hx hb dJ5_ensureCapacityInternal_d00df_22 rfl (lv_at hl 1 rfl) ?_
    refine lv_iload_n hx hb dJ5_ensureCapacityInternal_d00df_23 rfl (lv_at hl 2 rfl) ?_
    refine ro_i (va_runU (As := [.int (nI k)]) (rest := [.ref b, .ref q]) ⟨hx, hb, hml, hown, hts⟩ (kJ5_newCapacity_0f7a4 l G q b n m k a (by omega) hc hk2) (va_cwU 1 hts gJ5_ensureCapacityInternal_d00df_J5_newCapacity_0f7a4_u104J4 rfl rfl rfl rfl (by decide +kernel) ⟨Nat.le_of_ble_eq_true rfl, Nat.le_of_ble_eq_true rfl⟩) (yV hP hS hK hZ 1 0 rfl rfl) rfl rfl hl.1 rfl (lv_room (Nat.le_of_ble_eq_true rfl)) dJ5_ensureCapacityInternal_d00df_24 ⟨Nat.le_of_ble_eq_true rfl, Nat.le_of_ble_eq_true rfl⟩) ?_
    refine lv_aload_n hx hb dJ5_ensureCapacityInternal_d00df_27 rfl (lv_at hl 1 rfl) ?_
    refine va_get (D := G.1) (ci := 1) (v := .int 0) (C := RJ4) (T := TJ4) (N := 4) hx hb hts (by decide +kernel) hown hK.1 hP 0 rfl rfl 1 (by decide) (w_mem hts 2 rfl) (fun _ h9 => h9) rfl dJ5_ensureCapacityInternal_d00df_28 ?_
    refine lv_ishl hx hb dJ5_ensureCapacityInternal_d00df_31 ?_
    rw [show ((nI (2 * m + 2)) <<< ((0 : Int32) &&& 31) : Int32) = nI (2 * m + 2) from sb_shl0 _]
    refine j_r (Wd := fun u r => [byt G b m a, byt G r (2 * m + 2) u]) (wc := [byt G b m a]) (wr := [bld q b n]) (va_runS (As := [.ref b, .int (nI (2 * m + 2))]) (rest := [.ref q]) ⟨hx, hb, hml, hown, hts⟩ (kJ7_copyOf_9075b l G b m (2 * m + 2) a _ ha (by omega) (cp_70 (cp_up hm hk hc)).2) (va_cwS 2 hts gJ5_ensureCapacityInternal_d00df_J7_copyOf_9075b rfl rfl rfl (by decide +kernel) ⟨Nat.le_of_ble_eq_true rfl, Nat.le_of_ble_eq_true rfl⟩) (zS (hP.sub (ws' := [byt G b m a]) [1] rfl) (hD.sub (ws' := [byt G b m a]) [1] (by decide) rfl) hS hK hA hZ) rfl rfl hl.1 rfl (lv_room (Nat.le_of_ble_eq_true rfl)) dJ5_ensureCapacityInternal_d00df_32 ⟨Nat.le_of_ble_eq_true rfl, Nat.le_of_ble_eq_true rfl⟩) hP hD hS hA [1] [0] rfl rfl (by decide) (by decide) (fun u r H locs hu hP hD hS => ?_)
    subst hu
    have hP : va_P G.1 vwCl [(q, .inr (1, [.ref b, .int 0, .int 0, .int (nI n)])), (b, .inl (G.2 4, m, .inl a)), (r, .inl (G.2 4, 2 * m + 2, .inl (va_cpy a zr 0 0 m)))] H := hP
    have hD : va_D A [(q, .inr (1, [.ref b, .int 0, .int 0, .int (nI n)])), (b, .inl (G.2 4, m, .inl a)), (r, .inl (G.2 4, 2 * m + 2, .inl (va_cpy a zr 0 0 m)))] := hD
    refine va_put (D := G.1) (ci := 1) (v := .ref r) (ty := (.array .byte)) (C := RJ4) (T := TJ4) (N := 4) hx hb hts (by decide +kernel) tyJ4 tyJ4_ok nmJ4 hown hK.1 hP hD hS 0 rfl rfl 0 (by decide) (w_mem hts 1 rfl) (fun _ h9 => h9) rfl (by decide +kernel) rfl rfl (Nat.le_of_ble_eq_true rfl) dJ5_ensureCapacityInternal_d00df_35 (fun H locs hP hD hS => ?_)
    have hP : va_P G.1 vwCl [(q, .inr (1, [.ref r, .int 0, .int 0, .int (nI n)])), (b, .inl (G.2 4, m, .inl a)), (r, .inl (G.2 4, 2 * m + 2, .inl (va_cpy a zr 0 0 m)))] H := hP
    have hD : va_D A [(q, .inr (1, [.ref r, .int 0, .int 0, .int (nI n)])), (b, .inl (G.2 4, m, .inl a)), (r, .inl (G.2 4, 2 * m + 2, .inl (va_cpy a zr 0 0 m)))] := hD
    have hP := hP.sub (ws' := [bld q r n, byt G r (2 * m + 2) (va_cpy a zr 0 0 m)]) [0, 2] rfl
    have hD := hD.sub (ws' := [bld q r n, byt G r (2 * m + 2) (va_cpy a zr 0 0 m)]) [0, 2] (by decide) rfl
    refine W.widen (k := 1) (n := 70) (by first | decide | omega) (by first | decide | omega) ?_
    exact W.vret hx hb hr (fun t ht _ => ⟨⟨(r, 2 * m + 2, va_cpy a zr 0 0 m), rfl, ⟨cp_up hm hk hc, hk2, by show m ≤ 2 * m + 2; omega, asc_cpy ha asc_zr _ _ _, fun i hi => by show va_cpy a zr 0 0 m i = a i; rw [pk_cpy_in (by omega) (by omega)]; congr 1; omega⟩, by rw [ht]; exact hP, hD⟩, hS.F ht⟩) hS.2.2 dJ5_ensureCapacityInternal_d00df_38 hlocks
  · refine lv_if_le (tgt := 38) hx hb dJ5_ensureCapacityInternal_d00df_14 (by decide) (fun _ => ?_) (fun c_ => absurd (subLe hc (by omega)) c_)
    refine W.widen (k := 1) (n := 70) (by first | decide | omega) (by first | decide | omega) ?_
    exact W.vret hx hb hr (fun t ht _ => ⟨⟨(b, m, a), rfl, ⟨hm, hc, Nat.le_refl _, ha, fun _ _ => rfl⟩, by rw [ht]; exact hP, hD⟩, hS.F ht⟩) hS.2.2 dJ5_ensureCapacityInternal_d00df_38 hlocks

def rmJ5_append_3fe6f : Room := { frames := 4, cells := 1, slots := 70, locals := 130 }
set_option maxHeartbeats 4000000 in
set_option maxRecDepth 100000 in
theorem kJ5_append_3fe6f (l : Launch) (G : GT) (q b n m k : Nat) (a : Nat → Int32) (sz : Nat) (ha : Asc a) (hm : cp m) (hk : k < 128) (hn : n ≤ m) (hn2 : n + 1 ≤ 70) : Met l yJ5_append_3fe6f wsJ5_append_3fe6f rmJ5_append_3fe6f (va_Pc [.ref q, .int (nI k)] (zP G [bld q b n, byt G b m a] sz)) (va_Qr (fun u : Nat × Nat × (Nat → Int32) => cp u.2.1 ∧ n + 1 ≤ u.2.1 ∧ Asc u.2.2 ∧ u.2.2 n = nI k ∧ ∀ i, i < n → u.2.2 i = a i) (fun u _ t => va_P G.1 vwCl [bld q u.1 (n + 1), byt G u.1 u.2.1 u.2.2] t.heap ∧ va_D (va_A [bld q b n, byt G b m a] sz) [bld q u.1 (n + 1), byt G u.1 u.2.1 u.2.2]) (va_A [bld q b n, byt G b m a] sz)) 1 70 (va_A [bld q b n, byt G b m a] sz) := by
  refine Met.ofW (cc := cJ5_append_3fe6f) (maxL := 2) (ret := (some (.object "java/lang/AbstractStringBuilder"))) (by decide) rfl ?_
  intro p e s mt args below meth c s₁ B hml hv
  obtain ⟨rfl, ⟨hsz, hP, hK, hD0⟩, hZ⟩ := hv
  have bx := bx_of B hml
  subst hsz
  have hD := hD0.self (sz := s.heap.size)
  generalize hAe : va_A [bld q b n, byt G b m a] s.heap.size = A at hD hZ ⊢
  have hA : ∀ q : Nat, s.heap.size ≤ q → A q := fun q h => by rw [← hAe]; exact Or.inr h
  have hS : va_S A s.heap s.heap [] := va_S.rf
  obtain ⟨hx, hb, hr, hts, hown, hml, hlocks⟩ := id bx
  have hl := lv_entry ([.ref q, .int (nI k)]) (n := 2) (Nat.le_of_ble_eq_true rfl)
  rw [lg_entry_eq]
  generalize (lg_sl ([.ref q, .int (nI k)]) ++ List.replicate (2 - (lg_sl ([.ref q, .int (nI k)])).length) Slot.unset).toArray = ls at hl ⊢
  have hl : lv_has ls 2 [(0, .ref q), (1, .int (nI k))] := hl
  show W p l e rmJ5_append_3fe6f s mt _ below meth c s.heap [] 0 0 _ (F0 mt 0 ls [])
  have h70 := cp_70 hm
  refine lv_aload_n hx hb dJ5_append_3fe6f_0 rfl (lv_at hl 0 rfl) ?_
  refine lv_aload_n hx hb dJ5_append_3fe6f_1 rfl (lv_at hl 0 rfl) ?_
  refine va_get (D := G.1) (ci := 1) (v := .int (nI n)) (C := RJ4) (T := TJ4) (N := 4) hx hb hts (by decide +kernel) hown hK.1 hP 0 rfl rfl 3 (by decide) (w_mem hts 1 rfl) (fun _ h9 => h9) rfl dJ5_append_3fe6f_2 ?_
  refine lv_iconst (v := 1) hx hb dJ5_append_3fe6f_5 (by decide) ?_
  refine lv_iadd hx hb dJ5_append_3fe6f_6 ?_
  rw [show ((nI n) + 1 : Int32) = nI (n + 1) from nI_1 n]
  refine j_v (Wd := fun u : Nat × Nat × (Nat → Int32) => [bld q u.1 n, byt G u.1 u.2.1 u.2.2]) (wc := [bld q b n, byt G b m a]) (wr := []) (va_runU (As := [.int (nI (n + 1))]) (rest := []) ⟨hx, hb, hml, hown, hts⟩ (kJ5_ensureCapacityInternal_d00df l G q b n m (n + 1) a _ ha hm (by omega) (by omega)) (va_cwU 1 hts gJ5_append_3fe6f_J5_ensureCapacityInternal_d00df_u100J4 rfl rfl rfl rfl (by decide +kernel) ⟨Nat.le_of_ble_eq_true rfl, Nat.le_of_ble_eq_true rfl⟩) (zV hP hD hS hK hA hZ 1 0 rfl rfl) rfl rfl hl.1 rfl (lv_room (Nat.le_of_ble_eq_true rfl)) dJ5_append_3fe6f_7 ⟨Nat.le_of_ble_eq_true rfl, Nat.le_of_ble_eq_true rfl⟩) hP hD hS hA [0, 1] [] rfl rfl (by decide) (by decide) (fun u H locs hu hP hD hS => ?_)
  obtain ⟨b1, m1, a1⟩ := u
  obtain ⟨h1, h2, h3, h4, h5⟩ : cp m1 ∧ n + 1 ≤ m1 ∧ m ≤ m1 ∧ Asc a1 ∧ ∀ i, i < m → a1 i = a i := hu
  have h170 := cp_70 h1
  have hP : va_P G.1 vwCl [(q, .inr (1, [.ref b1, .int 0, .int 0, .int (nI n)])), (b1, .inl (G.2 4, m1, .inl a1))] H := hP
  have hD : va_D A [(q, .inr (1, [.ref b1, .int 0, .int 0, .int (nI n)])), (b1, .inl (G.2 4, m1, .inl a1))] := hD
  refine lv_aload_n hx hb dJ5_append_3fe6f_10 rfl (lv_at hl 0 rfl) ?_
  refine ro_i (va_runU (As := []) (rest := []) ⟨hx, hb, hml, hown, hts⟩ (kJ5_isLatin1_aae02 l G q b1 n m1 a1) (va_cwU 0 hts gJ5_append_3fe6f_J5_isLatin1_aae02_u83J4 rfl rfl rfl rfl (by decide +kernel) ⟨Nat.le_of_ble_eq_true rfl, Nat.le_of_ble_eq_true rfl⟩) (yV hP hS hK hZ 1 0 rfl rfl) rfl rfl hl.1 rfl (lv_room (Nat.le_of_ble_eq_true rfl)) dJ5_append_3fe6f_11 ⟨Nat.le_of_ble_eq_true rfl, Nat.le_of_ble_eq_true rfl⟩) ?_
  refine lv_if_eq (tgt := 45) hx hb dJ5_append_3fe6f_14 (by decide) (fun c_ => absurd c_ (by decide : ¬ (1 : Int32) = 0)) (fun _ => ?_)
  refine lv_iload_n hx hb dJ5_append_3fe6f_17 rfl (lv_at hl 1 rfl) ?_
  refine ro_i (va_runS (As := [.int (nI k)]) (rest := []) ⟨hx, hb, hml, hown, hts⟩ (kJ1_canEncode_fc78d l k hk) (va_cwS 1 hts gJ5_append_3fe6f_J1_canEncode_fc78d rfl rfl rfl (by decide +kernel) ⟨Nat.le_of_ble_eq_true rfl, Nat.le_of_ble_eq_true rfl⟩) noS rfl rfl hl.1 rfl (lv_room (Nat.le_of_ble_eq_true rfl)) dJ5_append_3fe6f_18 ⟨Nat.le_of_ble_eq_true rfl, Nat.le_of_ble_eq_true rfl⟩) ?_
  refine lv_if_eq (tgt := 45) hx hb dJ5_append_3fe6f_21 (by decide) (fun c_ => absurd c_ (by decide : ¬ (1 : Int32) = 0)) (fun _ => ?_)
  refine lv_aload_n hx hb dJ5_append_3fe6f_24 rfl (lv_at hl 0 rfl) ?_
  refine va_get (D := G.1) (ci := 1) (v := .ref b1) (C := RJ4) (T := TJ4) (N := 4) hx hb hts (by decide +kernel) hown hK.1 hP 0 rfl rfl 0 (by decide) (w_mem hts 2 rfl) (fun _ h9 => h9) rfl dJ5_append_3fe6f_25 ?_
  refine lv_aload_n hx hb dJ5_append_3fe6f_28 rfl (lv_at hl 0 rfl) ?_
  refine lv_dup hx hb dJ5_append_3fe6f_29 rfl ?_
  refine va_get (D := G.1) (ci := 1) (v := .int (nI n)) (C := RJ4) (T := TJ4) (N := 4) hx hb hts (by decide +kernel) hown hK.1 hP 0 rfl rfl 3 (by decide) (w_mem hts 1 rfl) (fun _ h9 => h9) rfl dJ5_append_3fe6f_30 ?_
  refine lv_dup_x1 hx hb dJ5_append_3fe6f_33 rfl rfl ?_
  refine lv_iconst (v := 1) hx hb dJ5_append_3fe6f_34 (by decide) ?_
  refine lv_iadd hx hb dJ5_append_3fe6f_35 ?_
  rw [show ((nI n) + 1 : Int32) = nI (n + 1) from nI_1 n]
  refine va_put (D := G.1) (ci := 1) (v := .int (nI (n + 1))) (ty := .int) (C := RJ4) (T := TJ4) (N := 4) hx hb hts (by decide +kernel) tyJ4 tyJ4_ok nmJ4 hown hK.1 hP hD hS 0 rfl rfl 3 (by decide) (w_mem hts 1 rfl) (fun _ h9 => h9) rfl (by decide +kernel) rfl rfl (Nat.le_of_ble_eq_true rfl) dJ5_append_3fe6f_36 (fun H locs hP hD hS => ?_)
  have hP : va_P G.1 vwCl [(q, .inr (1, [.ref b1, .int 0, .int 0, .int (nI (n + 1))])), (b1, .inl (G.2 4, m1, .inl a1))] H := hP
  have hD : va_D A [(q, .inr (1, [.ref b1, .int 0, .int 0, .int (nI (n + 1))])), (b1, .inl (G.2 4, m1, .inl a1))] := hD
  refine lv_iload_n hx hb dJ5_append_3fe6f_39 rfl (lv_at hl 1 rfl) ?_
  refine lv_i2b (v := (nI k).toInt8.toInt32) hx hb dJ5_append_3fe6f_40 rfl ?_
  rw [show ((nI k).toInt8.toInt32 : Int32) = nI k from (byt7 k hk).1]
  refine va_bast (D := G.1) hx hb hK.1 hP hD hS 1 4 rfl rfl (vp_in_nI (by omega) (by omega)) dJ5_append_3fe6f_41 (fun H locs hP hD hS => ?_)
  rw [nI_clamp (n := n) (by omega), (byt7 k hk).2.1] at hP hD
  have hP : va_P G.1 vwCl [(q, .inr (1, [.ref b1, .int 0, .int 0, .int (nI (n + 1))])), (b1, .inl (G.2 4, m1, .inl (upd a1 (n) (nI k))))] H := hP
  have hD : va_D A [(q, .inr (1, [.ref b1, .int 0, .int 0, .int (nI (n + 1))])), (b1, .inl (G.2 4, m1, .inl (upd a1 (n) (nI k))))] := hD
  refine lv_goto (tgt := 75) hx hb dJ5_append_3fe6f_42 (by decide) ?_
  refine lv_aload_n hx hb dJ5_append_3fe6f_75 rfl (lv_at hl 0 rfl) ?_
  refine W.widen (k := 1) (n := 70) (by first | decide | omega) (by first | decide | omega) ?_
  exact W.aret hx hb hr (Or.inl ⟨_, rfl⟩) (Or.inr ⟨_, rfl⟩) (fun t ht _ => ⟨⟨(b1, m1, upd a1 n (nI k)), _, rfl, ⟨h1, h2, asc_up h4 n hk, pk_us, fun i hi => (pk_un (by omega)).trans (h5 i (by omega))⟩, by rw [ht]; exact hP, hD⟩, hS.F ht⟩) hS.2.2 dJ5_append_3fe6f_76 hlocks

def rmJ4_append_cf468 : Room := { frames := 5, cells := 1, slots := 70, locals := 151 }
set_option maxHeartbeats 4000000 in
set_option maxRecDepth 100000 in
theorem kJ4_append_cf468 (l : Launch) (G : GT) (q b n m k : Nat) (a : Nat → Int32) (sz : Nat) (ha : Asc a) (hm : cp m) (hk : k < 128) (hn : n ≤ m) (hn2 : n + 1 ≤ 70) : Met l yJ4_append_cf468 wsJ4_append_cf468 rmJ4_append_cf468 (va_Pc [.ref q, .int (nI k)] (zP G [bld q b n, byt G b m a] sz)) (va_Qr (fun u : Nat × Nat × (Nat → Int32) => cp u.2.1 ∧ n + 1 ≤ u.2.1 ∧ Asc u.2.2 ∧ u.2.2 n = nI k ∧ ∀ i, i < n → u.2.2 i = a i) (fun u _ t => va_P G.1 vwCl [bld q u.1 (n + 1), byt G u.1 u.2.1 u.2.2] t.heap ∧ va_D (va_A [bld q b n, byt G b m a] sz) [bld q u.1 (n + 1), byt G u.1 u.2.1 u.2.2]) (va_A [bld q b n, byt G b m a] sz)) 1 70 (va_A [bld q b n, byt G b m a] sz) := by
  refine Met.ofW (cc := cJ4_append_cf468) (maxL := 2) (ret := (some (.object "java/lang/StringBuilder"))) (by decide) rfl ?_
  intro p e s mt args below meth c s₁ B hml hv
  obtain ⟨rfl, ⟨hsz, hP, hK, hD0⟩, hZ⟩ := hv
  have bx := bx_of B hml
  subst hsz
  have hD := hD0.self (sz := s.heap.size)
  generalize hAe : va_A [bld q b n, byt G b m a] s.heap.size = A at hD hZ ⊢
  have hA : ∀ q : Nat, s.heap.size ≤ q → A q := fun q h => by rw [← hAe]; exact Or.inr h
  have hS : va_S A s.heap s.heap [] := va_S.rf
  obtain ⟨hx, hb, hr, hts, hown, hml, hlocks⟩ := id bx
  have hl := lv_entry ([.ref q, .int (nI k)]) (n := 2) (Nat.le_of_ble_eq_true rfl)
  rw [lg_entry_eq]
  generalize (lg_sl ([.ref q, .int (nI k)]) ++ List.replicate (2 - (lg_sl ([.ref q, .int (nI k)])).length) Slot.unset).toArray = ls at hl ⊢
  have hl : lv_has ls 2 [(0, .ref q), (1, .int (nI k))] := hl
  show W p l e rmJ4_append_cf468 s mt _ below meth c s.heap [] 0 0 _ (F0 mt 0 ls [])
  refine lv_aload_n hx hb dJ4_append_cf468_0 rfl (lv_at hl 0 rfl) ?_
  refine lv_iload_n hx hb dJ4_append_cf468_1 rfl (lv_at hl 1 rfl) ?_
  refine j_r (Wd := fun (u : Nat × Nat × (Nat → Int32)) (_ : Nat) => [bld q u.1 (n + 1), byt G u.1 u.2.1 u.2.2]) (wc := [bld q b n, byt G b m a]) (wr := []) (va_runSU (hK.1.1 1 _ rfl).2 (As := [.int (nI k)]) (rest := []) ⟨hx, hb, hml, hown, hts⟩ (kJ5_append_3fe6f l G q b n m k a _ ha hm hk hn hn2) (va_cwSU 1 hts gJ4_append_cf468_J5_append_3fe6f_s50 rfl rfl rfl (by decide +kernel) ⟨Nat.le_of_ble_eq_true rfl, Nat.le_of_ble_eq_true rfl⟩) (zV hP hD hS hK hA hZ 1 0 rfl rfl) rfl rfl hl.1 rfl (lv_room (Nat.le_of_ble_eq_true rfl)) dJ4_append_cf468_2 ⟨Nat.le_of_ble_eq_true rfl, Nat.le_of_ble_eq_true rfl⟩) hP hD hS hA [0, 1] [] rfl rfl (by decide) (by decide) (fun u r H locs hu hP hD hS => ?_)
  have hP : va_P G.1 vwCl [(q, .inr (1, [.ref u.1, .int 0, .int 0, .int (nI (n + 1))])), (u.1, .inl (G.2 4, u.2.1, .inl (u.2.2)))] H := hP
  have hD : va_D A [(q, .inr (1, [.ref u.1, .int 0, .int 0, .int (nI (n + 1))])), (u.1, .inl (G.2 4, u.2.1, .inl (u.2.2)))] := hD
  refine lv_pop hx hb dJ4_append_cf468_5 rfl ?_
  refine lv_aload_n hx hb dJ4_append_cf468_6 rfl (lv_at hl 0 rfl) ?_
  refine W.widen (k := 1) (n := 70) (by first | decide | omega) (by first | decide | omega) ?_
  exact W.aret hx hb hr (Or.inl ⟨_, rfl⟩) (Or.inr ⟨_, rfl⟩) (fun t ht _ => ⟨⟨u, _, rfl, hu, by rw [ht]; exact hP, hD⟩, hS.F ht⟩) hS.2.2 dJ4_append_cf468_7 hlocks

def rmJ6_stringSize_0f7a4 : Room := { frames := 1, cells := 0, slots := 0, locals := 60 }
set_option maxHeartbeats 4000000 in
set_option maxRecDepth 100000 in
theorem kJ6_stringSize_0f7a4 (l : Launch) (f : Nat) (hf : f < 12) : Met l yJ6_stringSize_0f7a4 wsJ6_stringSize_0f7a4 rmJ6_stringSize_0f7a4 (va_Pc [.int (nI f)] noP) (vp_Si (fun v => v = nI (dgs f))) 0 0 (fun _ => False) := by
  refine Met.ofW (cc := cJ6_stringSize_0f7a4) (maxL := 4) (ret := (some .int)) (by decide) rfl ?_
  intro p e s mt args below meth c s₁ B hml hv
  obtain ⟨rfl, -⟩ := hv
  have bx := bx_of B hml
  obtain ⟨hx, hb, hr, hts, hown, hml, hlocks⟩ := id bx
  have hl := lv_entry ([.int (nI f)]) (n := 4) (Nat.le_of_ble_eq_true rfl)
  rw [lg_entry_eq]
  generalize (lg_sl ([.int (nI f)]) ++ List.replicate (4 - (lg_sl ([.int (nI f)])).length) Slot.unset).toArray = ls at hl ⊢
  have hl : lv_has ls 4 [(0, .int (nI f))] := hl
  show GoI p l e rmJ6_stringSize_0f7a4 s mt _ below meth c _ (F0 mt 0 ls [])
  refine lv_iconst (v := 1) hx hb dJ6_stringSize_0f7a4_0 (by decide) ?_
  refine lv_istore_n (lv' := [(1, .int 1), (0, .int (nI f))]) hx hb dJ6_stringSize_0f7a4_1 rfl hl (by decide) rfl (fun ls hl => ?_)
  refine lv_iload_n hx hb dJ6_stringSize_0f7a4_2 rfl (lv_at hl 1 rfl) ?_
  refine lv_if_lt (tgt := 11) hx hb dJ6_stringSize_0f7a4_3 (by decide) (fun c_ => absurd c_ (nI_pos (by omega) : ¬ nI f < 0)) (fun _ => ?_)
  refine lv_iconst (v := 0) hx hb dJ6_stringSize_0f7a4_6 (by decide) ?_
  refine lv_istore_n (lv' := [(1, .int 0), (0, .int (nI f))]) hx hb dJ6_stringSize_0f7a4_7 rfl hl (by decide) rfl (fun ls hl => ?_)
  refine lv_iload_n hx hb dJ6_stringSize_0f7a4_8 rfl (lv_at hl 1 rfl) ?_
  refine lv_ineg hx hb dJ6_stringSize_0f7a4_9 ?_
  refine lv_istore_n (lv' := [(0, .int (-(nI f))), (1, .int 0)]) hx hb dJ6_stringSize_0f7a4_10 rfl hl (by decide) rfl (fun ls hl => ?_)
  refine lv_bipush (v := (-10)) hx hb dJ6_stringSize_0f7a4_11 (by decide) ?_
  refine lv_istore_n (lv' := [(2, .int (-10)), (0, .int (-(nI f))), (1, .int 0)]) hx hb dJ6_stringSize_0f7a4_13 rfl hl (by decide) rfl (fun ls hl => ?_)
  refine lv_iconst (v := 1) hx hb dJ6_stringSize_0f7a4_14 (by decide) ?_
  refine lv_istore_n (lv' := [(3, .int 1), (2, .int (-10)), (0, .int (-(nI f))), (1, .int 0)]) hx hb dJ6_stringSize_0f7a4_15 rfl hl (by decide) rfl (fun ls hl => ?_)
  refine lv_iload_n hx hb dJ6_stringSize_0f7a4_16 rfl (lv_at hl 0 rfl) ?_
  refine lv_bipush (v := 10) hx hb dJ6_stringSize_0f7a4_17 (by decide) ?_
  refine lv_icmp_ge (tgt := 42) hx hb dJ6_stringSize_0f7a4_19 (by decide) (fun c_ => absurd c_ (by decide : ¬ (10 : Int32) ≤ 1)) (fun _ => ?_)
  refine lv_iload_n hx hb dJ6_stringSize_0f7a4_22 rfl (lv_at hl 2 rfl) ?_
  refine lv_iload_n hx hb dJ6_stringSize_0f7a4_23 rfl (lv_at hl 1 rfl) ?_
  have h12 := neg12 f hf
  unfold dgs
  rcases Nat.lt_or_ge f 10 with hc | hc
  · rw [if_pos hc]
    refine lv_icmp_le (tgt := 31) hx hb dJ6_stringSize_0f7a4_24 (by decide) (fun c_ => absurd c_ (h12.1 hc).1) (fun _ => ?_)
    refine lv_iload_n hx hb dJ6_stringSize_0f7a4_27 rfl (lv_at hl 0 rfl) ?_
    refine lv_iload_n hx hb dJ6_stringSize_0f7a4_28 rfl (lv_at hl 3 rfl) ?_
    refine lv_iadd hx hb dJ6_stringSize_0f7a4_29 ?_
    rw [show (1 + 0 : Int32) = 1 from by decide]
    exact GoI.end hx hb hr hlocks dJ6_stringSize_0f7a4_30 rfl rfl
  · rw [if_neg (show ¬ f < 10 by omega)]
    refine lv_icmp_le (tgt := 31) hx hb dJ6_stringSize_0f7a4_24 (by decide) (fun _ => ?_) (fun c_ => absurd (h12.2.1 hc).1 c_)
    refine lv_bipush (v := 10) hx hb dJ6_stringSize_0f7a4_31 (by decide) ?_
    refine lv_iload_n hx hb dJ6_stringSize_0f7a4_33 rfl (lv_at hl 1 rfl) ?_
    refine lv_imul hx hb dJ6_stringSize_0f7a4_34 ?_
    rw [show (10 * (-10) : Int32) = (-100) from by decide]
    refine lv_istore_n (lv' := [(2, .int (-100)), (3, .int 1), (0, .int (-(nI f))), (1, .int 0)]) hx hb dJ6_stringSize_0f7a4_35 rfl hl (by decide) rfl (fun ls hl => ?_)
    refine lv_iinc (v := 2) (lv' := [(3, .int 2), (2, .int (-100)), (0, .int (-(nI f))), (1, .int 0)]) hx hb dJ6_stringSize_0f7a4_36 hl (k := 1) rfl (by decide) (by decide) rfl (fun ls hl => ?_)
    refine lv_goto (tgt := 16) hx hb dJ6_stringSize_0f7a4_39 (by decide) ?_
    refine lv_iload_n hx hb dJ6_stringSize_0f7a4_16 rfl (lv_at hl 0 rfl) ?_
    refine lv_bipush (v := 10) hx hb dJ6_stringSize_0f7a4_17 (by decide) ?_
    refine lv_icmp_ge (tgt := 42) hx hb dJ6_stringSize_0f7a4_19 (by decide) (fun c_ => absurd c_ (by decide : ¬ (10 : Int32) ≤ 2)) (fun _ => ?_)
    refine lv_iload_n hx hb dJ6_stringSize_0f7a4_22 rfl (lv_at hl 2 rfl) ?_
    refine lv_iload_n hx hb dJ6_stringSize_0f7a4_23 rfl (lv_at hl 1 rfl) ?_
    refine lv_icmp_le (tgt := 31) hx hb dJ6_stringSize_0f7a4_24 (by decide) (fun c_ => absurd c_ ((h12.2.1 hc).2.1)) (fun _ => ?_)
    refine lv_iload_n hx hb dJ6_stringSize_0f7a4_27 rfl (lv_at hl 0 rfl) ?_
    refine lv_iload_n hx hb dJ6_stringSize_0f7a4_28 rfl (lv_at hl 3 rfl) ?_
    refine lv_iadd hx hb dJ6_stringSize_0f7a4_29 ?_
    rw [show (2 + 0 : Int32) = 2 from by decide]
    exact GoI.end hx hb hr hlocks dJ6_stringSize_0f7a4_30 rfl rfl

def rmJ6_getChars_ba4f3 : Room := { frames := 1, cells := 0, slots := 0, locals := 60 }
set_option maxHeartbeats 4000000 in
set_option maxRecDepth 100000 in
theorem kJ6_getChars_ba4f3 (l : Launch) (G : GT) (b m k f : Nat) (a : Nat → Int32) (sz : Nat) (hf : f < 12) (hk : k ≤ m) (hm : m ≤ 70) (hd : dgs f ≤ k) : Met l yJ6_getChars_ba4f3 wsJ6_getChars_ba4f3 rmJ6_getChars_ba4f3 (va_Pc [.int (nI f), .int (nI k), .ref b] (zP G [byt G b m a] sz)) (va_Qi (fun (_ : Int32) (u : Nat → Int32) => u = gcs a k f) (fun u t => va_P G.1 vwCl [byt G b m u] t.heap ∧ va_D (va_A [byt G b m a] sz) [byt G b m u]) (va_A [byt G b m a] sz)) 0 0 (va_A [byt G b m a] sz) := by
  refine Met.ofW (cc := cJ6_getChars_ba4f3) (maxL := 7) (ret := (some .int)) (by decide) rfl ?_
  intro p e s mt args below meth c s₁ B hml hv
  obtain ⟨rfl, ⟨hsz, hP, hK, hD0⟩, hZ⟩ := hv
  have bx := bx_of B hml
  subst hsz
  have hD := hD0.self (sz := s.heap.size)
  generalize hAe : va_A [byt G b m a] s.heap.size = A at hD hZ ⊢
  have hA : ∀ q : Nat, s.heap.size ≤ q → A q := fun q h => by rw [← hAe]; exact Or.inr h
  have hS : va_S A s.heap s.heap [] := va_S.rf
  obtain ⟨hx, hb, hr, hts, hown, hml, hlocks⟩ := id bx
  have hl := lv_entry ([.int (nI f), .int (nI k), .ref b]) (n := 7) (Nat.le_of_ble_eq_true rfl)
  rw [lg_entry_eq]
  generalize (lg_sl ([.int (nI f), .int (nI k), .ref b]) ++ List.replicate (7 - (lg_sl ([.int (nI f), .int (nI k), .ref b])).length) Slot.unset).toArray = ls at hl ⊢
  have hl : lv_has ls 7 [(0, .int (nI f)), (1, .int (nI k)), (2, .ref b)] := hl
  show W p l e rmJ6_getChars_ba4f3 s mt _ below meth c s.heap [] 0 0 _ (F0 mt 0 ls [])
  have h12 := neg12 f hf
  have hd9 := dgs_le f
  refine lv_iload_n hx hb dJ6_getChars_ba4f3_0 rfl (lv_at hl 1 rfl) ?_
  refine lv_istore (lv' := [(5, .int (nI k)), (0, .int (nI f)), (1, .int (nI k)), (2, .ref b)]) hx hb dJ6_getChars_ba4f3_1 hl (by decide) rfl (fun ls hl => ?_)
  refine lv_iload_n hx hb dJ6_getChars_ba4f3_3 rfl (lv_at hl 1 rfl) ?_
  refine lv_if_ge (tgt := 11) hx hb dJ6_getChars_ba4f3_4 (by decide) (fun _ => ?_) (fun c_ => absurd (nI_pos' (by omega) : 0 ≤ nI f) c_)
  refine lv_iconst (v := 0) hx hb dJ6_getChars_ba4f3_11 (by decide) ?_
  refine lv_istore (lv' := [(6, .int 0), (5, .int (nI k)), (0, .int (nI f)), (1, .int (nI k)), (2, .ref b)]) hx hb dJ6_getChars_ba4f3_12 hl (by decide) rfl (fun ls hl => ?_)
  refine lv_iload hx hb dJ6_getChars_ba4f3_14 (lv_at hl 0 rfl) ?_
  refine lv_if_ne (tgt := 22) hx hb dJ6_getChars_ba4f3_16 (by decide) (fun c_ => absurd (rfl : (0 : Int32) = 0) c_) (fun _ => ?_)
  refine lv_iload_n hx hb dJ6_getChars_ba4f3_19 rfl (lv_at hl 2 rfl) ?_
  refine lv_ineg hx hb dJ6_getChars_ba4f3_20 ?_
  refine lv_istore_n (lv' := [(0, .int (-(nI f))), (6, .int 0), (5, .int (nI k)), (1, .int (nI k)), (2, .ref b)]) hx hb dJ6_getChars_ba4f3_21 rfl hl (by decide) rfl (fun ls hl => ?_)
  refine lv_iload_n hx hb dJ6_getChars_ba4f3_22 rfl (lv_at hl 0 rfl) ?_
  refine lv_bipush (v := (-100)) hx hb dJ6_getChars_ba4f3_23 (by decide) ?_
  refine lv_icmp_gt (tgt := 72) hx hb dJ6_getChars_ba4f3_25 (by decide) (fun _ => ?_) (fun c_ => absurd h12.2.2.1 c_)
  refine lv_aload_n hx hb dJ6_getChars_ba4f3_72 rfl (lv_at hl 4 rfl) ?_
  refine lv_iinc (v := nI (k - 1)) (lv' := [(5, .int (nI (k - 1))), (0, .int (-(nI f))), (6, .int 0), (1, .int (nI k)), (2, .ref b)]) hx hb dJ6_getChars_ba4f3_73 hl (k := 2) rfl (sb_m1 (by omega)) (by decide) rfl (fun ls hl => ?_)
  refine lv_iload hx hb dJ6_getChars_ba4f3_76 (lv_at hl 0 rfl) ?_
  obtain ⟨t78, z78, y78⟩ := hZ.2.1
  refine va_gets hx hb z78 hS hown (w_mem hts 1 rfl) (fun _ h9 => h9) dJ6_getChars_ba4f3_78 ?_
  refine lv_iload_n hx hb dJ6_getChars_ba4f3_81 rfl (lv_at hl 1 rfl) ?_
  refine lv_ineg hx hb dJ6_getChars_ba4f3_82 ?_
  rw [show - -nI f = nI f from h12.2.2.2.1]
  refine va_tb hx hb y78 hS (vp_in_nI (by omega) (by decide)) (v := .int (nI (48 + f % 10))) (by rw [nI_clamp (n := f) (by omega)]; exact congrArg Value.int (congrArg nI (rfl))) dJ6_getChars_ba4f3_83 ?_
  refine va_bast (D := G.1) hx hb hK.1 hP hD hS 0 4 rfl rfl (vp_in_nI (by omega) (by omega)) dJ6_getChars_ba4f3_84 (fun H locs hP hD hS => ?_)
  rw [nI_clamp (n := k - 1) (by omega), (byt7 (48 + f % 10) (by omega)).2.1] at hP hD
  have hP : va_P G.1 vwCl [(b, .inl (G.2 4, m, .inl (upd a (k - 1) (nI (48 + f % 10)))))] H := hP
  have hD : va_D A [(b, .inl (G.2 4, m, .inl (upd a (k - 1) (nI (48 + f % 10)))))] := hD
  refine lv_iload_n hx hb dJ6_getChars_ba4f3_85 rfl (lv_at hl 1 rfl) ?_
  refine lv_bipush (v := (-9)) hx hb dJ6_getChars_ba4f3_86 (by decide) ?_
  rcases Nat.lt_or_ge f 10 with hc | hc
  · refine lv_icmp_ge (tgt := 104) hx hb dJ6_getChars_ba4f3_88 (by decide) (fun _ => ?_) (fun c_ => absurd (h12.1 hc).2 c_)
    rw [show 48 + f % 10 = 48 + f by omega] at hP hD
    refine lv_iload hx hb dJ6_getChars_ba4f3_104 (lv_at hl 2 rfl) ?_
    refine lv_if_eq (tgt := 118) hx hb dJ6_getChars_ba4f3_106 (by decide) (fun _ => ?_) (fun c_ => absurd (rfl : (0 : Int32) = 0) c_)
    refine lv_iload hx hb dJ6_getChars_ba4f3_118 (lv_at hl 0 rfl) ?_
    refine W.widen (k := 0) (n := 0) (by first | decide | omega) (by first | decide | omega) ?_
    exact W.zret hx hb hr rfl (fun t ht _ => ⟨⟨_, (upd a (k - 1) (nI (48 + f))), rfl, (by unfold gcs; rw [if_pos hc]), by rw [ht]; exact hP, hD⟩, hS.F ht⟩) hS.2.2 dJ6_getChars_ba4f3_120 hlocks
  · refine lv_icmp_ge (tgt := 104) hx hb dJ6_getChars_ba4f3_88 (by decide) (fun c_ => absurd c_ (h12.2.1 hc).2.2) (fun _ => ?_)
    have hd2 : 2 ≤ k := by unfold dgs at hd; rw [if_neg (by omega)] at hd; exact hd
    rw [show 48 + f % 10 = 38 + f by omega] at hP hD
    refine lv_aload_n hx hb dJ6_getChars_ba4f3_91 rfl (lv_at hl 4 rfl) ?_
    refine lv_iinc (v := nI (k - 2)) (lv' := [(5, .int (nI (k - 2))), (0, .int (-(nI f))), (6, .int 0), (1, .int (nI k)), (2, .ref b)]) hx hb dJ6_getChars_ba4f3_92 hl (k := 0) rfl ((sb_m1 (by omega)).trans (congrArg nI (by omega))) (by decide) rfl (fun ls hl => ?_)
    refine lv_iload hx hb dJ6_getChars_ba4f3_95 (lv_at hl 0 rfl) ?_
    obtain ⟨t97, z97, y97⟩ := hZ.2.2.1
    refine va_gets hx hb z97 hS hown (w_mem hts 2 rfl) (fun _ h9 => h9) dJ6_getChars_ba4f3_97 ?_
    refine lv_iload_n hx hb dJ6_getChars_ba4f3_100 rfl (lv_at hl 1 rfl) ?_
    refine lv_ineg hx hb dJ6_getChars_ba4f3_101 ?_
    rw [show - -nI f = nI f from h12.2.2.2.1]
    refine va_tb hx hb y97 hS (vp_in_nI (by omega) (by decide)) (v := .int (nI 49)) (by rw [nI_clamp (n := f) (by omega)]; exact congrArg Value.int (congrArg nI (by omega))) dJ6_getChars_ba4f3_102 ?_
    refine va_bast (D := G.1) hx hb hK.1 hP hD hS 0 4 rfl rfl (vp_in_nI (by omega) (by omega)) dJ6_getChars_ba4f3_103 (fun H locs hP hD hS => ?_)
    rw [nI_clamp (n := k - 2) (by omega), (byt7 49 (by decide)).2.1] at hP hD
    have hP : va_P G.1 vwCl [(b, .inl (G.2 4, m, .inl (upd (upd a (k - 1) (nI (38 + f))) (k - 2) (nI 49))))] H := hP
    have hD : va_D A [(b, .inl (G.2 4, m, .inl (upd (upd a (k - 1) (nI (38 + f))) (k - 2) (nI 49))))] := hD
    refine lv_iload hx hb dJ6_getChars_ba4f3_104 (lv_at hl 2 rfl) ?_
    refine lv_if_eq (tgt := 118) hx hb dJ6_getChars_ba4f3_106 (by decide) (fun _ => ?_) (fun c_ => absurd (rfl : (0 : Int32) = 0) c_)
    refine lv_iload hx hb dJ6_getChars_ba4f3_118 (lv_at hl 0 rfl) ?_
    refine W.widen (k := 0) (n := 0) (by first | decide | omega) (by first | decide | omega) ?_
    exact W.zret hx hb hr rfl (fun t ht _ => ⟨⟨_, (upd (upd a (k - 1) (nI (38 + f))) (k - 2) (nI 49)), rfl, (by unfold gcs; rw [if_neg (by omega)]), by rw [ht]; exact hP, hD⟩, hS.F ht⟩) hS.2.2 dJ6_getChars_ba4f3_120 hlocks

def rmJ5_append_c97b9 : Room := { frames := 4, cells := 1, slots := 70, locals := 130 }
set_option maxHeartbeats 4000000 in
set_option maxRecDepth 100000 in
theorem kJ5_append_c97b9 (l : Launch) (G : GT) (q b n m f : Nat) (a : Nat → Int32) (sz : Nat) (ha : Asc a) (hm : cp m) (hf : f < 12) (hn : n ≤ m) (hn2 : n + 2 ≤ 70) : Met l yJ5_append_c97b9 wsJ5_append_c97b9 rmJ5_append_c97b9 (va_Pc [.ref q, .int (nI f)] (zP G [bld q b n, byt G b m a] sz)) (va_Qr (fun u : Nat × Nat × (Nat → Int32) => cp u.2.1 ∧ n + dgs f ≤ u.2.1 ∧ Asc u.2.2 ∧ ∃ a1 : Nat → Int32, (∀ i, i < n → a1 i = a i) ∧ u.2.2 = gcs a1 (n + dgs f) f) (fun u _ t => va_P G.1 vwCl [bld q u.1 (n + dgs f), byt G u.1 u.2.1 u.2.2] t.heap ∧ va_D (va_A [bld q b n, byt G b m a] sz) [bld q u.1 (n + dgs f), byt G u.1 u.2.1 u.2.2]) (va_A [bld q b n, byt G b m a] sz)) 1 70 (va_A [bld q b n, byt G b m a] sz) := by
  refine Met.ofW (cc := cJ5_append_c97b9) (maxL := 4) (ret := (some (.object "java/lang/AbstractStringBuilder"))) (by decide) rfl ?_
  intro p e s mt args below meth c s₁ B hml hv
  obtain ⟨rfl, ⟨hsz, hP, hK, hD0⟩, hZ⟩ := hv
  have bx := bx_of B hml
  subst hsz
  have hD := hD0.self (sz := s.heap.size)
  generalize hAe : va_A [bld q b n, byt G b m a] s.heap.size = A at hD hZ ⊢
  have hA : ∀ q : Nat, s.heap.size ≤ q → A q := fun q h => by rw [← hAe]; exact Or.inr h
  have hS : va_S A s.heap s.heap [] := va_S.rf
  obtain ⟨hx, hb, hr, hts, hown, hml, hlocks⟩ := id bx
  have hl := lv_entry ([.ref q, .int (nI f)]) (n := 4) (Nat.le_of_ble_eq_true rfl)
  rw [lg_entry_eq]
  generalize (lg_sl ([.ref q, .int (nI f)]) ++ List.replicate (4 - (lg_sl ([.ref q, .int (nI f)])).length) Slot.unset).toArray = ls at hl ⊢
  have hl : lv_has ls 4 [(0, .ref q), (1, .int (nI f))] := hl
  show W p l e rmJ5_append_c97b9 s mt _ below meth c s.heap [] 0 0 _ (F0 mt 0 ls [])
  have h70 := cp_70 hm
  have hd9 := dgs_le f
  refine lv_aload_n hx hb dJ5_append_c97b9_0 rfl (lv_at hl 0 rfl) ?_
  refine va_get (D := G.1) (ci := 1) (v := .int (nI n)) (C := RJ4) (T := TJ4) (N := 4) hx hb hts (by decide +kernel) hown hK.1 hP 0 rfl rfl 3 (by decide) (w_mem hts 1 rfl) (fun _ h9 => h9) rfl dJ5_append_c97b9_1 ?_
  refine lv_istore_n (lv' := [(2, .int (nI n)), (0, .ref q), (1, .int (nI f))]) hx hb dJ5_append_c97b9_4 rfl hl (by decide) rfl (fun ls hl => ?_)
  refine lv_iload_n hx hb dJ5_append_c97b9_5 rfl (lv_at hl 0 rfl) ?_
  refine lv_iload_n hx hb dJ5_append_c97b9_6 rfl (lv_at hl 2 rfl) ?_
  refine ro_i (va_runS (As := [.int (nI f)]) (rest := [.int (nI n)]) ⟨hx, hb, hml, hown, hts⟩ (kJ6_stringSize_0f7a4 l f hf) (va_cwS 1 hts gJ5_append_c97b9_J6_stringSize_0f7a4 rfl rfl rfl (by decide +kernel) ⟨Nat.le_of_ble_eq_true rfl, Nat.le_of_ble_eq_true rfl⟩) noS rfl rfl hl.1 rfl (lv_room (Nat.le_of_ble_eq_true rfl)) dJ5_append_c97b9_7 ⟨Nat.le_of_ble_eq_true rfl, Nat.le_of_ble_eq_true rfl⟩) ?_
  refine lv_iadd hx hb dJ5_append_c97b9_10 ?_
  rw [show ((nI n) + (nI (dgs f)) : Int32) = nI (n + dgs f) from nI_add n (dgs f)]
  refine lv_istore_n (lv' := [(3, .int (nI (n + dgs f))), (2, .int (nI n)), (0, .ref q), (1, .int (nI f))]) hx hb dJ5_append_c97b9_11 rfl hl (by decide) rfl (fun ls hl => ?_)
  refine lv_aload_n hx hb dJ5_append_c97b9_12 rfl (lv_at hl 2 rfl) ?_
  refine lv_iload_n hx hb dJ5_append_c97b9_13 rfl (lv_at hl 0 rfl) ?_
  refine j_v (Wd := fun u : Nat × Nat × (Nat → Int32) => [bld q u.1 n, byt G u.1 u.2.1 u.2.2]) (wc := [bld q b n, byt G b m a]) (wr := []) (va_runU (As := [.int (nI (n + dgs f))]) (rest := []) ⟨hx, hb, hml, hown, hts⟩ (kJ5_ensureCapacityInternal_d00df l G q b n m (n + dgs f) a _ ha hm (by omega) (by omega)) (va_cwU 1 hts gJ5_append_c97b9_J5_ensureCapacityInternal_d00df_u100J4 rfl rfl rfl rfl (by decide +kernel) ⟨Nat.le_of_ble_eq_true rfl, Nat.le_of_ble_eq_true rfl⟩) (zV hP hD hS hK hA hZ 1 0 rfl rfl) rfl rfl hl.1 rfl (lv_room (Nat.le_of_ble_eq_true rfl)) dJ5_append_c97b9_14 ⟨Nat.le_of_ble_eq_true rfl, Nat.le_of_ble_eq_true rfl⟩) hP hD hS hA [0, 1] [] rfl rfl (by decide) (by decide) (fun u H locs hu hP hD hS => ?_)
  obtain ⟨b1, m1, a1⟩ := u
  obtain ⟨h1, h2, h3, h4, h5⟩ : cp m1 ∧ n + dgs f ≤ m1 ∧ m ≤ m1 ∧ Asc a1 ∧ ∀ i, i < m → a1 i = a i := hu
  have h170 := cp_70 h1
  have hP : va_P G.1 vwCl [(q, .inr (1, [.ref b1, .int 0, .int 0, .int (nI n)])), (b1, .inl (G.2 4, m1, .inl a1))] H := hP
  have hD : va_D A [(q, .inr (1, [.ref b1, .int 0, .int 0, .int (nI n)])), (b1, .inl (G.2 4, m1, .inl a1))] := hD
  refine lv_aload_n hx hb dJ5_append_c97b9_17 rfl (lv_at hl 2 rfl) ?_
  refine ro_i (va_runU (As := []) (rest := []) ⟨hx, hb, hml, hown, hts⟩ (kJ5_isLatin1_aae02 l G q b1 n m1 a1) (va_cwU 0 hts gJ5_append_c97b9_J5_isLatin1_aae02_u83J4 rfl rfl rfl rfl (by decide +kernel) ⟨Nat.le_of_ble_eq_true rfl, Nat.le_of_ble_eq_true rfl⟩) (yV hP hS hK hZ 1 0 rfl rfl) rfl rfl hl.1 rfl (lv_room (Nat.le_of_ble_eq_true rfl)) dJ5_append_c97b9_18 ⟨Nat.le_of_ble_eq_true rfl, Nat.le_of_ble_eq_true rfl⟩) ?_
  refine lv_if_eq (tgt := 37) hx hb dJ5_append_c97b9_21 (by decide) (fun c_ => absurd c_ (by decide : ¬ (1 : Int32) = 0)) (fun _ => ?_)
  refine lv_iload_n hx hb dJ5_append_c97b9_24 rfl (lv_at hl 3 rfl) ?_
  refine lv_iload_n hx hb dJ5_append_c97b9_25 rfl (lv_at hl 0 rfl) ?_
  refine lv_aload_n hx hb dJ5_append_c97b9_26 rfl (lv_at hl 2 rfl) ?_
  refine va_get (D := G.1) (ci := 1) (v := .ref b1) (C := RJ4) (T := TJ4) (N := 4) hx hb hts (by decide +kernel) hown hK.1 hP 0 rfl rfl 0 (by decide) (w_mem hts 2 rfl) (fun _ h9 => h9) rfl dJ5_append_c97b9_27 ?_
  refine j_i (Wd := fun u : Nat → Int32 => [byt G b1 m1 u]) (wc := [byt G b1 m1 a1]) (wr := [bld q b1 n]) (va_runS (As := [.int (nI f), .int (nI (n + dgs f)), .ref b1]) (rest := []) ⟨hx, hb, hml, hown, hts⟩ (kJ6_getChars_ba4f3 l G b1 m1 (n + dgs f) f a1 _ hf h2 h170.2 (by omega)) (va_cwS 3 hts gJ5_append_c97b9_J6_getChars_ba4f3 rfl rfl rfl (by decide +kernel) ⟨Nat.le_of_ble_eq_true rfl, Nat.le_of_ble_eq_true rfl⟩) (zS (hP.sub (ws' := [byt G b1 m1 a1]) [1] rfl) (hD.sub (ws' := [byt G b1 m1 a1]) [1] (by decide) rfl) hS hK hA hZ) rfl rfl hl.1 rfl (lv_room (Nat.le_of_ble_eq_true rfl)) dJ5_append_c97b9_30 ⟨Nat.le_of_ble_eq_true rfl, Nat.le_of_ble_eq_true rfl⟩) hP hD hS hA [1] [0] rfl rfl (by decide) (by decide) (fun r u H locs hu hP hD hS => ?_)
  subst hu
  have hP : va_P G.1 vwCl [(q, .inr (1, [.ref b1, .int 0, .int 0, .int (nI n)])), (b1, .inl (G.2 4, m1, .inl (gcs a1 (n + dgs f) f)))] H := hP
  have hD : va_D A [(q, .inr (1, [.ref b1, .int 0, .int 0, .int (nI n)])), (b1, .inl (G.2 4, m1, .inl (gcs a1 (n + dgs f) f)))] := hD
  refine lv_pop hx hb dJ5_append_c97b9_33 rfl ?_
  refine lv_goto (tgt := 48) hx hb dJ5_append_c97b9_34 (by decide) ?_
  refine lv_aload_n hx hb dJ5_append_c97b9_48 rfl (lv_at hl 2 rfl) ?_
  refine lv_iload_n hx hb dJ5_append_c97b9_49 rfl (lv_at hl 0 rfl) ?_
  refine va_put (D := G.1) (ci := 1) (v := .int (nI (n + dgs f))) (ty := .int) (C := RJ4) (T := TJ4) (N := 4) hx hb hts (by decide +kernel) tyJ4 tyJ4_ok nmJ4 hown hK.1 hP hD hS 0 rfl rfl 3 (by decide) (w_mem hts 1 rfl) (fun _ h9 => h9) rfl (by decide +kernel) rfl rfl (Nat.le_of_ble_eq_true rfl) dJ5_append_c97b9_50 (fun H locs hP hD hS => ?_)
  have hP : va_P G.1 vwCl [(q, .inr (1, [.ref b1, .int 0, .int 0, .int (nI (n + dgs f))])), (b1, .inl (G.2 4, m1, .inl (gcs a1 (n + dgs f) f)))] H := hP
  have hD : va_D A [(q, .inr (1, [.ref b1, .int 0, .int 0, .int (nI (n + dgs f))])), (b1, .inl (G.2 4, m1, .inl (gcs a1 (n + dgs f) f)))] := hD
  refine lv_aload_n hx hb dJ5_append_c97b9_53 rfl (lv_at hl 2 rfl) ?_
  refine W.widen (k := 1) (n := 70) (by first | decide | omega) (by first | decide | omega) ?_
  exact W.aret hx hb hr (Or.inl ⟨_, rfl⟩) (Or.inr ⟨_, rfl⟩) (fun t ht _ => ⟨⟨(b1, m1, gcs a1 (n + dgs f) f), _, rfl, ⟨h1, h2, asc_gcs h4 _ hf, a1, fun i hi => h5 i (by omega), rfl⟩, by rw [ht]; exact hP, hD⟩, hS.F ht⟩) hS.2.2 dJ5_append_c97b9_54 hlocks

def rmJ4_append_bf812 : Room := { frames := 5, cells := 1, slots := 70, locals := 153 }
set_option maxHeartbeats 4000000 in
set_option maxRecDepth 100000 in
theorem kJ4_append_bf812 (l : Launch) (G : GT) (q b n m f : Nat) (a : Nat → Int32) (sz : Nat) (ha : Asc a) (hm : cp m) (hf : f < 12) (hn : n ≤ m) (hn2 : n + 2 ≤ 70) : Met l yJ4_append_bf812 wsJ4_append_bf812 rmJ4_append_bf812 (va_Pc [.ref q, .int (nI f)] (zP G [bld q b n, byt G b m a] sz)) (va_Qr (fun u : Nat × Nat × (Nat → Int32) => cp u.2.1 ∧ n + dgs f ≤ u.2.1 ∧ Asc u.2.2 ∧ ∃ a1 : Nat → Int32, (∀ i, i < n → a1 i = a i) ∧ u.2.2 = gcs a1 (n + dgs f) f) (fun u _ t => va_P G.1 vwCl [bld q u.1 (n + dgs f), byt G u.1 u.2.1 u.2.2] t.heap ∧ va_D (va_A [bld q b n, byt G b m a] sz) [bld q u.1 (n + dgs f), byt G u.1 u.2.1 u.2.2]) (va_A [bld q b n, byt G b m a] sz)) 1 70 (va_A [bld q b n, byt G b m a] sz) := by
  refine Met.ofW (cc := cJ4_append_bf812) (maxL := 2) (ret := (some (.object "java/lang/StringBuilder"))) (by decide) rfl ?_
  intro p e s mt args below meth c s₁ B hml hv
  obtain ⟨rfl, ⟨hsz, hP, hK, hD0⟩, hZ⟩ := hv
  have bx := bx_of B hml
  subst hsz
  have hD := hD0.self (sz := s.heap.size)
  generalize hAe : va_A [bld q b n, byt G b m a] s.heap.size = A at hD hZ ⊢
  have hA : ∀ q : Nat, s.heap.size ≤ q → A q := fun q h => by rw [← hAe]; exact Or.inr h
  have hS : va_S A s.heap s.heap [] := va_S.rf
  obtain ⟨hx, hb, hr, hts, hown, hml, hlocks⟩ := id bx
  have hl := lv_entry ([.ref q, .int (nI f)]) (n := 2) (Nat.le_of_ble_eq_true rfl)
  rw [lg_entry_eq]
  generalize (lg_sl ([.ref q, .int (nI f)]) ++ List.replicate (2 - (lg_sl ([.ref q, .int (nI f)])).length) Slot.unset).toArray = ls at hl ⊢
  have hl : lv_has ls 2 [(0, .ref q), (1, .int (nI f))] := hl
  show W p l e rmJ4_append_bf812 s mt _ below meth c s.heap [] 0 0 _ (F0 mt 0 ls [])
  refine lv_aload_n hx hb dJ4_append_bf812_0 rfl (lv_at hl 0 rfl) ?_
  refine lv_iload_n hx hb dJ4_append_bf812_1 rfl (lv_at hl 1 rfl) ?_
  refine j_r (Wd := fun (u : Nat × Nat × (Nat → Int32)) (_ : Nat) => [bld q u.1 (n + dgs f), byt G u.1 u.2.1 u.2.2]) (wc := [bld q b n, byt G b m a]) (wr := []) (va_runSU (hK.1.1 1 _ rfl).2 (As := [.int (nI f)]) (rest := []) ⟨hx, hb, hml, hown, hts⟩ (kJ5_append_c97b9 l G q b n m f a _ ha hm hf hn hn2) (va_cwSU 1 hts gJ4_append_bf812_J5_append_c97b9_s53 rfl rfl rfl (by decide +kernel) ⟨Nat.le_of_ble_eq_true rfl, Nat.le_of_ble_eq_true rfl⟩) (zV hP hD hS hK hA hZ 1 0 rfl rfl) rfl rfl hl.1 rfl (lv_room (Nat.le_of_ble_eq_true rfl)) dJ4_append_bf812_2 ⟨Nat.le_of_ble_eq_true rfl, Nat.le_of_ble_eq_true rfl⟩) hP hD hS hA [0, 1] [] rfl rfl (by decide) (by decide) (fun u r H locs hu hP hD hS => ?_)
  have hP : va_P G.1 vwCl [(q, .inr (1, [.ref u.1, .int 0, .int 0, .int (nI (n + dgs f))])), (u.1, .inl (G.2 4, u.2.1, .inl (u.2.2)))] H := hP
  have hD : va_D A [(q, .inr (1, [.ref u.1, .int 0, .int 0, .int (nI (n + dgs f))])), (u.1, .inl (G.2 4, u.2.1, .inl (u.2.2)))] := hD
  refine lv_pop hx hb dJ4_append_bf812_5 rfl ?_
  refine lv_aload_n hx hb dJ4_append_bf812_6 rfl (lv_at hl 0 rfl) ?_
  refine W.widen (k := 1) (n := 70) (by first | decide | omega) (by first | decide | omega) ?_
  exact W.aret hx hb hr (Or.inl ⟨_, rfl⟩) (Or.inr ⟨_, rfl⟩) (fun t ht _ => ⟨⟨u, _, rfl, hu, by rw [ht]; exact hP, hD⟩, hS.F ht⟩) hS.2.2 dJ4_append_bf812_7 hlocks
