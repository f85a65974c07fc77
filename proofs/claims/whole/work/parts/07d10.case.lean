set_option maxHeartbeats 4000000 in
set_option maxRecDepth 100000 in
theorem law_c0 {p : Program} {l : Launch} {e : Env} {s : State} {m : MethodId} {below : List Frame} {meth : Method} {c : Code} {b L : Nat} {xs : Nat → Int32} {G : GT} {qm q : Nat → Nat} {qo t cells slots : Nat} {Q : State → Prop} {C M : St} {o : Nat → Int64} {H : Heap} {locs : List Loc} {ls : Array Slot} (hL : LE p l s m meth c b L xs G) (ht : 4 * t + 3 < L) (hc : cells + 60 ≤ 601024 ∧ slots + 4000 ≤ 7293034) (hN : LN p l e s m below meth c b G qm q qo t cells slots Q) (hI : Inv C M) (hP : va_P G.1 vwCl (LW G qm q qo M C o) H) (hD : va_D (LA s) (LW G qm q qo M C o)) (hS : va_S (LA s) s.heap H locs) (hl : lv_has ls 9 (lwL b (qm 0) (q 0) qo t)) : W p l e room_1 s m #[.ref b] below meth c H locs cells slots Q (F0 m 196 ls []) := by
  obtain ⟨⟨hx, hb, hr, hts, hown, hml, hlocks⟩, hl0, hK, hE, hZ, hX, hbl, hL2⟩ := hL
  obtain ⟨D, i0, o0, hI⟩ := hI
  obtain ⟨x1, hx1⟩ : ∃ x, xs (4 * t + 1) = x := ⟨_, rfl⟩
  obtain ⟨x2, hx2⟩ : ∃ x, xs (4 * t + 2) = x := ⟨_, rfl⟩
  obtain ⟨k, bb, M', C', o', hw, hM, hI2, h7, ho⟩ := agW (cd := cdL_addFeature) (aAddF hI x1 x2) (by intro k; unfold cdL_addFeature; (repeat' split) <;> decide) Int32.toInt64 o
  refine lv_aload_n hx hb dL_law_196 rfl (lv_at hl 3 rfl) ?_
  refine lv_aload_n hx hb dL_law_197 rfl (lv_at hl 4 rfl) ?_
  refine lv_iload hx hb dL_law_198 (lv_at hl 0 rfl) ?_
  refine lv_iconst (v := 1) hx hb dL_law_200 (by decide) ?_
  refine lv_iadd hx hb dL_law_201 ?_
  rw [show (nI (4 * t) + 1 : Int32) = nI (4 * t + 1) from nI_add (4 * t) 1]
  refine va_sld hx hb hX hbl (Nat.not_le_of_lt hbl) hS (vp_in_nI (by omega) (by omega)) dL_law_202 ?_
  rw [nI_clamp (n := 4 * t + 1) (by omega), hx1]
  refine lv_aload_n hx hb dL_law_203 rfl (lv_at hl 4 rfl) ?_
  refine lv_iload hx hb dL_law_204 (lv_at hl 0 rfl) ?_
  refine lv_iconst (v := 2) hx hb dL_law_206 (by decide) ?_
  refine lv_iadd hx hb dL_law_207 ?_
  rw [show (nI (4 * t) + 2 : Int32) = nI (4 * t + 2) from nI_add (4 * t) 2]
  refine va_sld hx hb hX hbl (Nat.not_le_of_lt hbl) hS (vp_in_nI (by omega) (by omega)) dL_law_208 ?_
  rw [nI_clamp (n := 4 * t + 2) (by omega), hx2]
  refine lv_aload_n hx hb dL_law_209 rfl (lv_at hl 1 rfl) ?_
  refine lw_x (vx_runSW (As := [.ref (q 0), .int x1, .int x2, .ref qo]) (rest := []) ⟨hx, hb, hml, hown, hts⟩ (kL_addFeature l hl0 G q qo C o _ x1 x2 _ hw) (vx_cwSW 4 hts gL_law_L_addFeature rfl rfl rfl (by decide +kernel) ⟨Nat.le_of_ble_eq_true rfl, Nat.le_of_ble_eq_true rfl⟩) (xS (lw_PX hP) (lw_DX hD) hS hK lw_hA hE) rfl rfl hl.1 rfl (lv_room (Nat.le_of_ble_eq_true rfl)) dL_law_210 ⟨by show cells + 1 ≤ 601024; omega, by show slots + 6 ≤ 7293034; omega⟩) hP hD hS (fun H locs hP hD hS => ?_)
  have hP : va_P G.1 vwCl (LW G qm q qo M C' o') H := hP
  have hD : va_D (LA s) (LW G qm q qo M C' o') := hD
  refine lv_istore (lv' := [(5, .int k), (4, .int (nI (4 * t))), (3, .ref qo), (2, .ref (qm 0)), (1, .ref (q 0)), (0, .ref b)]) hx hb dL_law_213 hl (by decide) rfl (fun ls hl => ?_)
  refine lv_aload_n hx hb dL_law_215 rfl (lv_at hl 3 rfl) ?_
  refine lv_aload_n hx hb dL_law_216 rfl (lv_at hl 5 rfl) ?_
  refine lv_iload hx hb dL_law_217 (lv_at hl 1 rfl) ?_
  refine lv_iconst (v := 1) hx hb dL_law_219 (by decide) ?_
  refine lv_iadd hx hb dL_law_220 ?_
  rw [show (nI (4 * t) + 1 : Int32) = nI (4 * t + 1) from nI_add (4 * t) 1]
  refine va_sld hx hb hX hbl (Nat.not_le_of_lt hbl) hS (vp_in_nI (by omega) (by omega)) dL_law_221 ?_
  rw [nI_clamp (n := 4 * t + 1) (by omega), hx1]
  refine lv_aload_n hx hb dL_law_222 rfl (lv_at hl 5 rfl) ?_
  refine lv_iload hx hb dL_law_223 (lv_at hl 1 rfl) ?_
  refine lv_iconst (v := 2) hx hb dL_law_225 (by decide) ?_
  refine lv_iadd hx hb dL_law_226 ?_
  rw [show (nI (4 * t) + 2 : Int32) = nI (4 * t + 2) from nI_add (4 * t) 2]
  refine va_sld hx hb hX hbl (Nat.not_le_of_lt hbl) hS (vp_in_nI (by omega) (by omega)) dL_law_227 ?_
  rw [nI_clamp (n := 4 * t + 2) (by omega), hx2]
  refine lm_i (va_runV (As := [.int x1, .int x2]) (rest := []) ⟨hx, hb, hml, hown, hts⟩ (kX7_addFeature l G qm M _ x1 x2 _ hM) (cwV 2 hts gL_law_X7_addFeature rfl rfl rfl (by decide +kernel) ⟨Nat.le_of_ble_eq_true rfl, Nat.le_of_ble_eq_true rfl⟩) (wrV (lw_PM hP) (lw_DM hD) hK 8 0 rfl rfl) rfl rfl hl.1 rfl (lv_room (Nat.le_of_ble_eq_true rfl)) dL_law_228 ⟨by show cells + 1 + 0 ≤ 601024; omega, by show slots + 6 + 0 ≤ 7293034; omega⟩) hP hD hS (fun H locs hP hD hS => ?_)
  have hP : va_P G.1 vwCl (LW G qm q qo M' C' o') H := hP
  have hD : va_D (LA s) (LW G qm q qo M' C' o') := hD
  refine lv_istore (lv' := [(6, .int bb), (5, .int k), (4, .int (nI (4 * t))), (3, .ref qo), (2, .ref (qm 0)), (1, .ref (q 0)), (0, .ref b)]) hx hb dL_law_231 hl (by decide) rfl (fun ls hl => ?_)
  refine lv_aload_n hx hb dL_law_233 rfl (lv_at hl 4 rfl) ?_
  refine ro_i (va_runV (As := []) (rest := []) ⟨hx, hb, hml, hown, hts⟩ (kX7_thrown l G qm M' _ rfl) (cwV 0 hts gL_law_X7_thrown rfl rfl rfl (by decide +kernel) ⟨Nat.le_of_ble_eq_true rfl, Nat.le_of_ble_eq_true rfl⟩) (roV (lw_PM hP) hK 8 0 rfl rfl) rfl rfl hl.1 rfl (lv_room (Nat.le_of_ble_eq_true rfl)) dL_law_234 ⟨by show cells + 1 + 0 + 0 ≤ 601024; omega, by show slots + 6 + 0 + 0 ≤ 7293034; omega⟩) ?_
  rw [h7]
  refine lv_iload hx hb dL_law_237 (lv_at hl 1 rfl) ?_
  refine lv_icmp_eq (tgt := 244) hx hb dL_law_239 (by decide) (fun _ => ?_) (fun c_ => absurd rfl c_)
  refine lv_iload hx hb dL_law_244 (lv_at hl 1 rfl) ?_
  refine lv_if_ne (tgt := 261) hx hb dL_law_246 (by decide) (fun _ => ?_) (fun z => ?_)
  · skip
    refine lv_goto (tgt := 2033) hx hb dL_law_261 (by decide) ?_
    exact W.widen (k := cells + 60) (n := slots + 4000) (by omega) (by omega) (hN _ _ _ _ _ _ hI2 hP hD hS (lv_sub hl [2, 3, 4, 5, 6] rfl))
  · skip
    refine lv_aload_n hx hb dL_law_249 rfl (lv_at hl 3 rfl) ?_
    refine lv_iconst (v := 0) hx hb dL_law_250 (by decide) ?_
    refine va_lald (D := G.1) hx hb hK.1 hP 37 3 rfl rfl (by unfold vp_in; decide) dL_law_251 ?_
    rw [show (0 : Int32).toNatClampNeg = 0 from rfl]
    refine lv_iload hx hb dL_law_252 (lv_at hl 0 rfl) ?_
    refine lv_i2l (v := Int32.toInt64 bb) hx hb dL_law_254 rfl ?_
    refine W.lcmp hx hb dL_law_255 ?_
    rw [ho z, lcmp0]
    refine lv_if_eq (tgt := 261) hx hb dL_law_256 (by decide) (fun _ => ?_) (fun c_ => absurd rfl c_)
    refine lv_goto (tgt := 2033) hx hb dL_law_261 (by decide) ?_
    exact W.widen (k := cells + 60) (n := slots + 4000) (by omega) (by omega) (hN _ _ _ _ _ _ hI2 hP hD hS (lv_sub hl [2, 3, 4, 5, 6] rfl))

set_option maxHeartbeats 4000000 in
set_option maxRecDepth 100000 in
theorem law_c1 {p : Program} {l : Launch} {e : Env} {s : State} {m : MethodId} {below : List Frame} {meth : Method} {c : Code} {b L : Nat} {xs : Nat → Int32} {G : GT} {qm q : Nat → Nat} {qo t cells slots : Nat} {Q : State → Prop} {C M : St} {o : Nat → Int64} {H : Heap} {locs : List Loc} {ls : Array Slot} (hL : LE p l s m meth c b L xs G) (ht : 4 * t + 3 < L) (hc : cells + 60 ≤ 601024 ∧ slots + 4000 ≤ 7293034) (hN : LN p l e s m below meth c b G qm q qo t cells slots Q) (hI : Inv C M) (hP : va_P G.1 vwCl (LW G qm q qo M C o) H) (hD : va_D (LA s) (LW G qm q qo M C o)) (hS : va_S (LA s) s.heap H locs) (hl : lv_has ls 9 (lwL b (qm 0) (q 0) qo t)) : W p l e room_1 s m #[.ref b] below meth c H locs cells slots Q (F0 m 264 ls []) := by
  obtain ⟨⟨hx, hb, hr, hts, hown, hml, hlocks⟩, hl0, hK, hE, hZ, hX, hbl, hL2⟩ := hL
  obtain ⟨D, i0, o0, hI⟩ := hI
  obtain ⟨x1, hx1⟩ : ∃ x, xs (4 * t + 1) = x := ⟨_, rfl⟩
  obtain ⟨x2, hx2⟩ : ∃ x, xs (4 * t + 2) = x := ⟨_, rfl⟩
  by_cases hz : x2 = 0
  · skip
    obtain ⟨k, bb, M', C', o', hw, hM, hI2, h7, ho⟩ := agW (cd := cdL_setMandatory) (aMandatory hI x1 false) (by intro k; unfold cdL_setMandatory; (repeat' split) <;> decide) (fun z => if z = 0 then (0 : Int64) else 1) o
    have ho : k = 0 → o' 0 = if bb = 0 then (0 : Int64) else 1 := ho
    refine lv_aload_n hx hb dL_law_264 rfl (lv_at hl 3 rfl) ?_
    refine lv_aload_n hx hb dL_law_265 rfl (lv_at hl 4 rfl) ?_
    refine lv_iload hx hb dL_law_266 (lv_at hl 0 rfl) ?_
    refine lv_iconst (v := 1) hx hb dL_law_268 (by decide) ?_
    refine lv_iadd hx hb dL_law_269 ?_
    rw [show (nI (4 * t) + 1 : Int32) = nI (4 * t + 1) from nI_add (4 * t) 1]
    refine va_sld hx hb hX hbl (Nat.not_le_of_lt hbl) hS (vp_in_nI (by omega) (by omega)) dL_law_270 ?_
    rw [nI_clamp (n := 4 * t + 1) (by omega), hx1]
    refine lv_aload_n hx hb dL_law_271 rfl (lv_at hl 4 rfl) ?_
    refine lv_iload hx hb dL_law_272 (lv_at hl 0 rfl) ?_
    refine lv_iconst (v := 2) hx hb dL_law_274 (by decide) ?_
    refine lv_iadd hx hb dL_law_275 ?_
    rw [show (nI (4 * t) + 2 : Int32) = nI (4 * t + 2) from nI_add (4 * t) 2]
    refine va_sld hx hb hX hbl (Nat.not_le_of_lt hbl) hS (vp_in_nI (by omega) (by omega)) dL_law_276 ?_
    rw [nI_clamp (n := 4 * t + 2) (by omega), hx2]
    refine lv_if_eq (tgt := 284) hx hb dL_law_277 (by decide) (fun _ => ?_) (fun c_ => absurd hz c_)
    refine lv_iconst (v := 0) hx hb dL_law_284 (by decide) ?_
    refine lv_aload_n hx hb dL_law_285 rfl (lv_at hl 1 rfl) ?_
    refine lw_x (vx_runSW (As := [.ref (q 0), .int x1, .int 0, .ref qo]) (rest := []) ⟨hx, hb, hml, hown, hts⟩ (kL_setMandatory l hl0 G q qo C o _ x1 0 _ hw) (vx_cwSW 4 hts gL_law_L_setMandatory rfl rfl rfl (by decide +kernel) ⟨Nat.le_of_ble_eq_true rfl, Nat.le_of_ble_eq_true rfl⟩) (xS (lw_PX hP) (lw_DX hD) hS hK lw_hA hE) rfl rfl hl.1 rfl (lv_room (Nat.le_of_ble_eq_true rfl)) dL_law_286 ⟨by show cells + 1 ≤ 601024; omega, by show slots + 6 ≤ 7293034; omega⟩) hP hD hS (fun H locs hP hD hS => ?_)
    have hP : va_P G.1 vwCl (LW G qm q qo M C' o') H := hP
    have hD : va_D (LA s) (LW G qm q qo M C' o') := hD
    refine lv_istore (lv' := [(5, .int k), (4, .int (nI (4 * t))), (3, .ref qo), (2, .ref (qm 0)), (1, .ref (q 0)), (0, .ref b)]) hx hb dL_law_289 hl (by decide) rfl (fun ls hl => ?_)
    refine lv_aload_n hx hb dL_law_291 rfl (lv_at hl 3 rfl) ?_
    refine lv_aload_n hx hb dL_law_292 rfl (lv_at hl 5 rfl) ?_
    refine lv_iload hx hb dL_law_293 (lv_at hl 1 rfl) ?_
    refine lv_iconst (v := 1) hx hb dL_law_295 (by decide) ?_
    refine lv_iadd hx hb dL_law_296 ?_
    rw [show (nI (4 * t) + 1 : Int32) = nI (4 * t + 1) from nI_add (4 * t) 1]
    refine va_sld hx hb hX hbl (Nat.not_le_of_lt hbl) hS (vp_in_nI (by omega) (by omega)) dL_law_297 ?_
    rw [nI_clamp (n := 4 * t + 1) (by omega), hx1]
    refine lv_aload_n hx hb dL_law_298 rfl (lv_at hl 5 rfl) ?_
    refine lv_iload hx hb dL_law_299 (lv_at hl 1 rfl) ?_
    refine lv_iconst (v := 2) hx hb dL_law_301 (by decide) ?_
    refine lv_iadd hx hb dL_law_302 ?_
    rw [show (nI (4 * t) + 2 : Int32) = nI (4 * t + 2) from nI_add (4 * t) 2]
    refine va_sld hx hb hX hbl (Nat.not_le_of_lt hbl) hS (vp_in_nI (by omega) (by omega)) dL_law_303 ?_
    rw [nI_clamp (n := 4 * t + 2) (by omega), hx2]
    refine lv_if_eq (tgt := 311) hx hb dL_law_304 (by decide) (fun _ => ?_) (fun c_ => absurd hz c_)
    refine lv_iconst (v := 0) hx hb dL_law_311 (by decide) ?_
    refine lm_i (va_runV (As := [.int x1, .int 0]) (rest := []) ⟨hx, hb, hml, hown, hts⟩ (kX7_setMandatory l G qm M _ x1 0 _ hM) (cwV 2 hts gL_law_X7_setMandatory rfl rfl rfl (by decide +kernel) ⟨Nat.le_of_ble_eq_true rfl, Nat.le_of_ble_eq_true rfl⟩) (wrV (lw_PM hP) (lw_DM hD) hK 8 0 rfl rfl) rfl rfl hl.1 rfl (lv_room (Nat.le_of_ble_eq_true rfl)) dL_law_312 ⟨by show cells + 1 + 0 ≤ 601024; omega, by show slots + 6 + 0 ≤ 7293034; omega⟩) hP hD hS (fun H locs hP hD hS => ?_)
    have hP : va_P G.1 vwCl (LW G qm q qo M' C' o') H := hP
    have hD : va_D (LA s) (LW G qm q qo M' C' o') := hD
    refine lv_istore (lv' := [(6, .int bb), (5, .int k), (4, .int (nI (4 * t))), (3, .ref qo), (2, .ref (qm 0)), (1, .ref (q 0)), (0, .ref b)]) hx hb dL_law_315 hl (by decide) rfl (fun ls hl => ?_)
    refine lv_aload_n hx hb dL_law_317 rfl (lv_at hl 4 rfl) ?_
    refine ro_i (va_runV (As := []) (rest := []) ⟨hx, hb, hml, hown, hts⟩ (kX7_thrown l G qm M' _ rfl) (cwV 0 hts gL_law_X7_thrown rfl rfl rfl (by decide +kernel) ⟨Nat.le_of_ble_eq_true rfl, Nat.le_of_ble_eq_true rfl⟩) (roV (lw_PM hP) hK 8 0 rfl rfl) rfl rfl hl.1 rfl (lv_room (Nat.le_of_ble_eq_true rfl)) dL_law_318 ⟨by show cells + 1 + 0 + 0 ≤ 601024; omega, by show slots + 6 + 0 + 0 ≤ 7293034; omega⟩) ?_
    rw [h7]
    refine lv_iload hx hb dL_law_321 (lv_at hl 1 rfl) ?_
    refine lv_icmp_eq (tgt := 328) hx hb dL_law_323 (by decide) (fun _ => ?_) (fun c_ => absurd rfl c_)
    refine lv_iload hx hb dL_law_328 (lv_at hl 1 rfl) ?_
    refine lv_if_ne (tgt := 352) hx hb dL_law_330 (by decide) (fun _ => ?_) (fun z => ?_)
    · skip
      refine lv_goto (tgt := 2033) hx hb dL_law_352 (by decide) ?_
      exact W.widen (k := cells + 60) (n := slots + 4000) (by omega) (by omega) (hN _ _ _ _ _ _ hI2 hP hD hS (lv_sub hl [2, 3, 4, 5, 6] rfl))
    · skip
      refine lv_aload_n hx hb dL_law_333 rfl (lv_at hl 3 rfl) ?_
      refine lv_iconst (v := 0) hx hb dL_law_334 (by decide) ?_
      refine va_lald (D := G.1) hx hb hK.1 hP 37 3 rfl rfl (by unfold vp_in; decide) dL_law_335 ?_
      rw [show (0 : Int32).toNatClampNeg = 0 from rfl]
      refine lv_iload hx hb dL_law_336 (lv_at hl 0 rfl) ?_
      refine lv_if_eq (tgt := 345) hx hb dL_law_338 (by decide) (fun zb => ?_) (fun zb => ?_)
      · rw [if_pos zb] at ho
        refine lv_lconst (v := 0) hx hb dL_law_345 (by decide) ?_
        refine W.lcmp hx hb dL_law_346 ?_
        rw [ho z, lcmp0]
        refine lv_if_eq (tgt := 352) hx hb dL_law_347 (by decide) (fun _ => ?_) (fun c_ => absurd rfl c_)
        refine lv_goto (tgt := 2033) hx hb dL_law_352 (by decide) ?_
        exact W.widen (k := cells + 60) (n := slots + 4000) (by omega) (by omega) (hN _ _ _ _ _ _ hI2 hP hD hS (lv_sub hl [2, 3, 4, 5, 6] rfl))
      · rw [if_neg zb] at ho
        refine lv_lconst (v := 1) hx hb dL_law_341 (by decide) ?_
        refine lv_goto (tgt := 346) hx hb dL_law_342 (by decide) ?_
        refine W.lcmp hx hb dL_law_346 ?_
        rw [ho z, lcmp0]
        refine lv_if_eq (tgt := 352) hx hb dL_law_347 (by decide) (fun _ => ?_) (fun c_ => absurd rfl c_)
        refine lv_goto (tgt := 2033) hx hb dL_law_352 (by decide) ?_
        exact W.widen (k := cells + 60) (n := slots + 4000) (by omega) (by omega) (hN _ _ _ _ _ _ hI2 hP hD hS (lv_sub hl [2, 3, 4, 5, 6] rfl))
  · skip
    obtain ⟨k, bb, M', C', o', hw, hM, hI2, h7, ho⟩ := agW (cd := cdL_setMandatory) (aMandatory hI x1 true) (by intro k; unfold cdL_setMandatory; (repeat' split) <;> decide) (fun z => if z = 0 then (0 : Int64) else 1) o
    have ho : k = 0 → o' 0 = if bb = 0 then (0 : Int64) else 1 := ho
    refine lv_aload_n hx hb dL_law_264 rfl (lv_at hl 3 rfl) ?_
    refine lv_aload_n hx hb dL_law_265 rfl (lv_at hl 4 rfl) ?_
    refine lv_iload hx hb dL_law_266 (lv_at hl 0 rfl) ?_
    refine lv_iconst (v := 1) hx hb dL_law_268 (by decide) ?_
    refine lv_iadd hx hb dL_law_269 ?_
    rw [show (nI (4 * t) + 1 : Int32) = nI (4 * t + 1) from nI_add (4 * t) 1]
    refine va_sld hx hb hX hbl (Nat.not_le_of_lt hbl) hS (vp_in_nI (by omega) (by omega)) dL_law_270 ?_
    rw [nI_clamp (n := 4 * t + 1) (by omega), hx1]
    refine lv_aload_n hx hb dL_law_271 rfl (lv_at hl 4 rfl) ?_
    refine lv_iload hx hb dL_law_272 (lv_at hl 0 rfl) ?_
    refine lv_iconst (v := 2) hx hb dL_law_274 (by decide) ?_
    refine lv_iadd hx hb dL_law_275 ?_
    rw [show (nI (4 * t) + 2 : Int32) = nI (4 * t + 2) from nI_add (4 * t) 2]
    refine va_sld hx hb hX hbl (Nat.not_le_of_lt hbl) hS (vp_in_nI (by omega) (by omega)) dL_law_276 ?_
    rw [nI_clamp (n := 4 * t + 2) (by omega), hx2]
    refine lv_if_eq (tgt := 284) hx hb dL_law_277 (by decide) (fun c_ => absurd c_ hz) (fun _ => ?_)
    refine lv_iconst (v := 1) hx hb dL_law_280 (by decide) ?_
    refine lv_goto (tgt := 285) hx hb dL_law_281 (by decide) ?_
    refine lv_aload_n hx hb dL_law_285 rfl (lv_at hl 1 rfl) ?_
    refine lw_x (vx_runSW (As := [.ref (q 0), .int x1, .int 1, .ref qo]) (rest := []) ⟨hx, hb, hml, hown, hts⟩ (kL_setMandatory l hl0 G q qo C o _ x1 1 _ hw) (vx_cwSW 4 hts gL_law_L_setMandatory rfl rfl rfl (by decide +kernel) ⟨Nat.le_of_ble_eq_true rfl, Nat.le_of_ble_eq_true rfl⟩) (xS (lw_PX hP) (lw_DX hD) hS hK lw_hA hE) rfl rfl hl.1 rfl (lv_room (Nat.le_of_ble_eq_true rfl)) dL_law_286 ⟨by show cells + 1 ≤ 601024; omega, by show slots + 6 ≤ 7293034; omega⟩) hP hD hS (fun H locs hP hD hS => ?_)
    have hP : va_P G.1 vwCl (LW G qm q qo M C' o') H := hP
    have hD : va_D (LA s) (LW G qm q qo M C' o') := hD
    refine lv_istore (lv' := [(5, .int k), (4, .int (nI (4 * t))), (3, .ref qo), (2, .ref (qm 0)), (1, .ref (q 0)), (0, .ref b)]) hx hb dL_law_289 hl (by decide) rfl (fun ls hl => ?_)
    refine lv_aload_n hx hb dL_law_291 rfl (lv_at hl 3 rfl) ?_
    refine lv_aload_n hx hb dL_law_292 rfl (lv_at hl 5 rfl) ?_
    refine lv_iload hx hb dL_law_293 (lv_at hl 1 rfl) ?_
    refine lv_iconst (v := 1) hx hb dL_law_295 (by decide) ?_
    refine lv_iadd hx hb dL_law_296 ?_
    rw [show (nI (4 * t) + 1 : Int32) = nI (4 * t + 1) from nI_add (4 * t) 1]
    refine va_sld hx hb hX hbl (Nat.not_le_of_lt hbl) hS (vp_in_nI (by omega) (by omega)) dL_law_297 ?_
    rw [nI_clamp (n := 4 * t + 1) (by omega), hx1]
    refine lv_aload_n hx hb dL_law_298 rfl (lv_at hl 5 rfl) ?_
    refine lv_iload hx hb dL_law_299 (lv_at hl 1 rfl) ?_
    refine lv_iconst (v := 2) hx hb dL_law_301 (by decide) ?_
    refine lv_iadd hx hb dL_law_302 ?_
    rw [show (nI (4 * t) + 2 : Int32) = nI (4 * t + 2) from nI_add (4 * t) 2]
    refine va_sld hx hb hX hbl (Nat.not_le_of_lt hbl) hS (vp_in_nI (by omega) (by omega)) dL_law_303 ?_
    rw [nI_clamp (n := 4 * t + 2) (by omega), hx2]
    refine lv_if_eq (tgt := 311) hx hb dL_law_304 (by decide) (fun c_ => absurd c_ hz) (fun _ => ?_)
    refine lv_iconst (v := 1) hx hb dL_law_307 (by decide) ?_
    refine lv_goto (tgt := 312) hx hb dL_law_308 (by decide) ?_
    refine lm_i (va_runV (As := [.int x1, .int 1]) (rest := []) ⟨hx, hb, hml, hown, hts⟩ (kX7_setMandatory l G qm M _ x1 1 _ hM) (cwV 2 hts gL_law_X7_setMandatory rfl rfl rfl (by decide +kernel) ⟨Nat.le_of_ble_eq_true rfl, Nat.le_of_ble_eq_true rfl⟩) (wrV (lw_PM hP) (lw_DM hD) hK 8 0 rfl rfl) rfl rfl hl.1 rfl (lv_room (Nat.le_of_ble_eq_true rfl)) dL_law_312 ⟨by show cells + 1 + 0 ≤ 601024; omega, by show slots + 6 + 0 ≤ 7293034; omega⟩) hP hD hS (fun H locs hP hD hS => ?_)
    have hP : va_P G.1 vwCl (LW G qm q qo M' C' o') H := hP
    have hD : va_D (LA s) (LW G qm q qo M' C' o') := hD
    refine lv_istore (lv' := [(6, .int bb), (5, .int k), (4, .int (nI (4 * t))), (3, .ref qo), (2, .ref (qm 0)), (1, .ref (q 0)), (0, .ref b)]) hx hb dL_law_315 hl (by decide) rfl (fun ls hl => ?_)
    refine lv_aload_n hx hb dL_law_317 rfl (lv_at hl 4 rfl) ?_
    refine ro_i (va_runV (As := []) (rest := []) ⟨hx, hb, hml, hown, hts⟩ (kX7_thrown l G qm M' _ rfl) (cwV 0 hts gL_law_X7_thrown rfl rfl rfl (by decide +kernel) ⟨Nat.le_of_ble_eq_true rfl, Nat.le_of_ble_eq_true rfl⟩) (roV (lw_PM hP) hK 8 0 rfl rfl) rfl rfl hl.1 rfl (lv_room (Nat.le_of_ble_eq_true rfl)) dL_law_318 ⟨by show cells + 1 + 0 + 0 ≤ 601024; omega, by show slots + 6 + 0 + 0 ≤ 7293034; omega⟩) ?_
    rw [h7]
    refine lv_iload hx hb dL_law_321 (lv_at hl 1 rfl) ?_
    refine lv_icmp_eq (tgt := 328) hx hb dL_law_323 (by decide) (fun _ => ?_) (fun c_ => absurd rfl c_)
    refine lv_iload hx hb dL_law_328 (lv_at hl 1 rfl) ?_
    refine lv_if_ne (tgt := 352) hx hb dL_law_330 (by decide) (fun _ => ?_) (fun z => ?_)
    · skip
      refine lv_goto (tgt := 2033) hx hb dL_law_352 (by decide) ?_
      exact W.widen (k := cells + 60) (n := slots + 4000) (by omega) (by omega) (hN _ _ _ _ _ _ hI2 hP hD hS (lv_sub hl [2, 3, 4, 5, 6] rfl))
    · skip
      refine lv_aload_n hx hb dL_law_333 rfl (lv_at hl 3 rfl) ?_
      refine lv_iconst (v := 0) hx hb dL_law_334 (by decide) ?_
      refine va_lald (D := G.1) hx hb hK.1 hP 37 3 rfl rfl (by unfold vp_in; decide) dL_law_335 ?_
      rw [show (0 : Int32).toNatClampNeg = 0 from rfl]
      refine lv_iload hx hb dL_law_336 (lv_at hl 0 rfl) ?_
      refine lv_if_eq (tgt := 345) hx hb dL_law_338 (by decide) (fun zb => ?_) (fun zb => ?_)
      · rw [if_pos zb] at ho
        refine lv_lconst (v := 0) hx hb dL_law_345 (by decide) ?_
        refine W.lcmp hx hb dL_law_346 ?_
        rw [ho z, lcmp0]
        refine lv_if_eq (tgt := 352) hx hb dL_law_347 (by decide) (fun _ => ?_) (fun c_ => absurd rfl c_)
        refine lv_goto (tgt := 2033) hx hb dL_law_352 (by decide) ?_
        exact W.widen (k := cells + 60) (n := slots + 4000) (by omega) (by omega) (hN _ _ _ _ _ _ hI2 hP hD hS (lv_sub hl [2, 3, 4, 5, 6] rfl))
      · rw [if_neg zb] at ho
        refine lv_lconst (v := 1) hx hb dL_law_341 (by decide) ?_
        refine lv_goto (tgt := 346) hx hb dL_law_342 (by decide) ?_
        refine W.lcmp hx hb dL_law_346 ?_
        rw [ho z, lcmp0]
        refine lv_if_eq (tgt := 352) hx hb dL_law_347 (by decide) (fun _ => ?_) (fun c_ => absurd rfl c_)
        refine lv_goto (tgt := 2033) hx hb dL_law_352 (by decide) ?_
        exact W.widen (k := cells + 60) (n := slots + 4000) (by omega) (by omega) (hN _ _ _ _ _ _ hI2 hP hD hS (lv_sub hl [2, 3, 4, 5, 6] rfl))

set_option maxHeartbeats 4000000 in
set_option maxRecDepth 100000 in
theorem law_c2 {p : Program} {l : Launch} {e : Env} {s : State} {m : MethodId} {below : List Frame} {meth : Method} {c : Code} {b L : Nat} {xs : Nat → Int32} {G : GT} {qm q : Nat → Nat} {qo t cells slots : Nat} {Q : State → Prop} {C M : St} {o : Nat → Int64} {H : Heap} {locs : List Loc} {ls : Array Slot} (hL : LE p l s m meth c b L xs G) (ht : 4 * t + 3 < L) (hc : cells + 60 ≤ 601024 ∧ slots + 4000 ≤ 7293034) (hN : LN p l e s m below meth c b G qm q qo t cells slots Q) (hI : Inv C M) (hP : va_P G.1 vwCl (LW G qm q qo M C o) H) (hD : va_D (LA s) (LW G qm q qo M C o)) (hS : va_S (LA s) s.heap H locs) (hl : lv_has ls 9 (lwL b (qm 0) (q 0) qo t)) : W p l e room_1 s m #[.ref b] below meth c H locs cells slots Q (F0 m 355 ls []) := by
  obtain ⟨⟨hx, hb, hr, hts, hown, hml, hlocks⟩, hl0, hK, hE, hZ, hX, hbl, hL2⟩ := hL
  obtain ⟨D, i0, o0, hI⟩ := hI
  obtain ⟨x1, hx1⟩ : ∃ x, xs (4 * t + 1) = x := ⟨_, rfl⟩
  obtain ⟨x2, hx2⟩ : ∃ x, xs (4 * t + 2) = x := ⟨_, rfl⟩
  obtain ⟨x3, hx3⟩ : ∃ x, xs (4 * t + 3) = x := ⟨_, rfl⟩
  obtain ⟨k, bb, M', C', o', hw, hM, hI2, h7, ho⟩ := agW (cd := cdL_setGroup) (aGroup hI x1 x2 x3) (by intro k; unfold cdL_setGroup; (repeat' split) <;> decide) Int32.toInt64 o
  refine lv_aload_n hx hb dL_law_355 rfl (lv_at hl 3 rfl) ?_
  refine lv_aload_n hx hb dL_law_356 rfl (lv_at hl 4 rfl) ?_
  refine lv_iload hx hb dL_law_357 (lv_at hl 0 rfl) ?_
  refine lv_iconst (v := 1) hx hb dL_law_359 (by decide) ?_
  refine lv_iadd hx hb dL_law_360 ?_
  rw [show (nI (4 * t) + 1 : Int32) = nI (4 * t + 1) from nI_add (4 * t) 1]
  refine va_sld hx hb hX hbl (Nat.not_le_of_lt hbl) hS (vp_in_nI (by omega) (by omega)) dL_law_361 ?_
  rw [nI_clamp (n := 4 * t + 1) (by omega), hx1]
  refine lv_aload_n hx hb dL_law_362 rfl (lv_at hl 4 rfl) ?_
  refine lv_iload hx hb dL_law_363 (lv_at hl 0 rfl) ?_
  refine lv_iconst (v := 2) hx hb dL_law_365 (by decide) ?_
  refine lv_iadd hx hb dL_law_366 ?_
  rw [show (nI (4 * t) + 2 : Int32) = nI (4 * t + 2) from nI_add (4 * t) 2]
  refine va_sld hx hb hX hbl (Nat.not_le_of_lt hbl) hS (vp_in_nI (by omega) (by omega)) dL_law_367 ?_
  rw [nI_clamp (n := 4 * t + 2) (by omega), hx2]
  refine lv_aload_n hx hb dL_law_368 rfl (lv_at hl 4 rfl) ?_
  refine lv_iload hx hb dL_law_369 (lv_at hl 0 rfl) ?_
  refine lv_iconst (v := 3) hx hb dL_law_371 (by decide) ?_
  refine lv_iadd hx hb dL_law_372 ?_
  rw [show (nI (4 * t) + 3 : Int32) = nI (4 * t + 3) from nI_add (4 * t) 3]
  refine va_sld hx hb hX hbl (Nat.not_le_of_lt hbl) hS (vp_in_nI (by omega) (by omega)) dL_law_373 ?_
  rw [nI_clamp (n := 4 * t + 3) (by omega), hx3]
  refine lv_aload_n hx hb dL_law_374 rfl (lv_at hl 1 rfl) ?_
  refine lw_x (vx_runSW (As := [.ref (q 0), .int x1, .int x2, .int x3, .ref qo]) (rest := []) ⟨hx, hb, hml, hown, hts⟩ (kL_setGroup l hl0 G q qo C o _ x1 x2 x3 _ hw) (vx_cwSW 5 hts gL_law_L_setGroup rfl rfl rfl (by decide +kernel) ⟨Nat.le_of_ble_eq_true rfl, Nat.le_of_ble_eq_true rfl⟩) (xS (lw_PX hP) (lw_DX hD) hS hK lw_hA hE) rfl rfl hl.1 rfl (lv_room (Nat.le_of_ble_eq_true rfl)) dL_law_375 ⟨by show cells + 1 ≤ 601024; omega, by show slots + 6 ≤ 7293034; omega⟩) hP hD hS (fun H locs hP hD hS => ?_)
  have hP : va_P G.1 vwCl (LW G qm q qo M C' o') H := hP
  have hD : va_D (LA s) (LW G qm q qo M C' o') := hD
  refine lv_istore (lv' := [(5, .int k), (4, .int (nI (4 * t))), (3, .ref qo), (2, .ref (qm 0)), (1, .ref (q 0)), (0, .ref b)]) hx hb dL_law_378 hl (by decide) rfl (fun ls hl => ?_)
  refine lv_aload_n hx hb dL_law_380 rfl (lv_at hl 3 rfl) ?_
  refine lv_aload_n hx hb dL_law_381 rfl (lv_at hl 5 rfl) ?_
  refine lv_iload hx hb dL_law_382 (lv_at hl 1 rfl) ?_
  refine lv_iconst (v := 1) hx hb dL_law_384 (by decide) ?_
  refine lv_iadd hx hb dL_law_385 ?_
  rw [show (nI (4 * t) + 1 : Int32) = nI (4 * t + 1) from nI_add (4 * t) 1]
  refine va_sld hx hb hX hbl (Nat.not_le_of_lt hbl) hS (vp_in_nI (by omega) (by omega)) dL_law_386 ?_
  rw [nI_clamp (n := 4 * t + 1) (by omega), hx1]
  refine lv_aload_n hx hb dL_law_387 rfl (lv_at hl 5 rfl) ?_
  refine lv_iload hx hb dL_law_388 (lv_at hl 1 rfl) ?_
  refine lv_iconst (v := 2) hx hb dL_law_390 (by decide) ?_
  refine lv_iadd hx hb dL_law_391 ?_
  rw [show (nI (4 * t) + 2 : Int32) = nI (4 * t + 2) from nI_add (4 * t) 2]
  refine va_sld hx hb hX hbl (Nat.not_le_of_lt hbl) hS (vp_in_nI (by omega) (by omega)) dL_law_392 ?_
  rw [nI_clamp (n := 4 * t + 2) (by omega), hx2]
  refine lv_aload_n hx hb dL_law_393 rfl (lv_at hl 5 rfl) ?_
  refine lv_iload hx hb dL_law_394 (lv_at hl 1 rfl) ?_
  refine lv_iconst (v := 3) hx hb dL_law_396 (by decide) ?_
  refine lv_iadd hx hb dL_law_397 ?_
  rw [show (nI (4 * t) + 3 : Int32) = nI (4 * t + 3) from nI_add (4 * t) 3]
  refine va_sld hx hb hX hbl (Nat.not_le_of_lt hbl) hS (vp_in_nI (by omega) (by omega)) dL_law_398 ?_
  rw [nI_clamp (n := 4 * t + 3) (by omega), hx3]
  refine lm_i (va_runV (As := [.int x1, .int x2, .int x3]) (rest := []) ⟨hx, hb, hml, hown, hts⟩ (kX7_setGroup l G qm M _ x1 x2 x3 _ hM) (cwV 3 hts gL_law_X7_setGroup rfl rfl rfl (by decide +kernel) ⟨Nat.le_of_ble_eq_true rfl, Nat.le_of_ble_eq_true rfl⟩) (wrV (lw_PM hP) (lw_DM hD) hK 8 0 rfl rfl) rfl rfl hl.1 rfl (lv_room (Nat.le_of_ble_eq_true rfl)) dL_law_399 ⟨by show cells + 1 + 0 ≤ 601024; omega, by show slots + 6 + 0 ≤ 7293034; omega⟩) hP hD hS (fun H locs hP hD hS => ?_)
  have hP : va_P G.1 vwCl (LW G qm q qo M' C' o') H := hP
  have hD : va_D (LA s) (LW G qm q qo M' C' o') := hD
  refine lv_istore (lv' := [(6, .int bb), (5, .int k), (4, .int (nI (4 * t))), (3, .ref qo), (2, .ref (qm 0)), (1, .ref (q 0)), (0, .ref b)]) hx hb dL_law_402 hl (by decide) rfl (fun ls hl => ?_)
  refine lv_aload_n hx hb dL_law_404 rfl (lv_at hl 4 rfl) ?_
  refine ro_i (va_runV (As := []) (rest := []) ⟨hx, hb, hml, hown, hts⟩ (kX7_thrown l G qm M' _ rfl) (cwV 0 hts gL_law_X7_thrown rfl rfl rfl (by decide +kernel) ⟨Nat.le_of_ble_eq_true rfl, Nat.le_of_ble_eq_true rfl⟩) (roV (lw_PM hP) hK 8 0 rfl rfl) rfl rfl hl.1 rfl (lv_room (Nat.le_of_ble_eq_true rfl)) dL_law_405 ⟨by show cells + 1 + 0 + 0 ≤ 601024; omega, by show slots + 6 + 0 + 0 ≤ 7293034; omega⟩) ?_
  rw [h7]
  refine lv_iload hx hb dL_law_408 (lv_at hl 1 rfl) ?_
  refine lv_icmp_eq (tgt := 415) hx hb dL_law_410 (by decide) (fun _ => ?_) (fun c_ => absurd rfl c_)
  refine lv_iload hx hb dL_law_415 (lv_at hl 1 rfl) ?_
  refine lv_if_ne (tgt := 432) hx hb dL_law_417 (by decide) (fun _ => ?_) (fun z => ?_)
  · skip
    refine lv_goto (tgt := 2033) hx hb dL_law_432 (by decide) ?_
    exact W.widen (k := cells + 60) (n := slots + 4000) (by omega) (by omega) (hN _ _ _ _ _ _ hI2 hP hD hS (lv_sub hl [2, 3, 4, 5, 6] rfl))
  · skip
    refine lv_aload_n hx hb dL_law_420 rfl (lv_at hl 3 rfl) ?_
    refine lv_iconst (v := 0) hx hb dL_law_421 (by decide) ?_
    refine va_lald (D := G.1) hx hb hK.1 hP 37 3 rfl rfl (by unfold vp_in; decide) dL_law_422 ?_
    rw [show (0 : Int32).toNatClampNeg = 0 from rfl]
    refine lv_iload hx hb dL_law_423 (lv_at hl 0 rfl) ?_
    refine lv_i2l (v := Int32.toInt64 bb) hx hb dL_law_425 rfl ?_
    refine W.lcmp hx hb dL_law_426 ?_
    rw [ho z, lcmp0]
    refine lv_if_eq (tgt := 432) hx hb dL_law_427 (by decide) (fun _ => ?_) (fun c_ => absurd rfl c_)
    refine lv_goto (tgt := 2033) hx hb dL_law_432 (by decide) ?_
    exact W.widen (k := cells + 60) (n := slots + 4000) (by omega) (by omega) (hN _ _ _ _ _ _ hI2 hP hD hS (lv_sub hl [2, 3, 4, 5, 6] rfl))

set_option maxHeartbeats 4000000 in
set_option maxRecDepth 100000 in
theorem law_c3 {p : Program} {l : Launch} {e : Env} {s : State} {m : MethodId} {below : List Frame} {meth : Method} {c : Code} {b L : Nat} {xs : Nat → Int32} {G : GT} {qm q : Nat → Nat} {qo t cells slots : Nat} {Q : State → Prop} {C M : St} {o : Nat → Int64} {H : Heap} {locs : List Loc} {ls : Array Slot} (hL : LE p l s m meth c b L xs G) (ht : 4 * t + 3 < L) (hc : cells + 60 ≤ 601024 ∧ slots + 4000 ≤ 7293034) (hN : LN p l e s m below meth c b G qm q qo t cells slots Q) (hI : Inv C M) (hP : va_P G.1 vwCl (LW G qm q qo M C o) H) (hD : va_D (LA s) (LW G qm q qo M C o)) (hS : va_S (LA s) s.heap H locs) (hl : lv_has ls 9 (lwL b (qm 0) (q 0) qo t)) : W p l e room_1 s m #[.ref b] below meth c H locs cells slots Q (F0 m 435 ls []) := by
  obtain ⟨⟨hx, hb, hr, hts, hown, hml, hlocks⟩, hl0, hK, hE, hZ, hX, hbl, hL2⟩ := hL
  obtain ⟨D, i0, o0, hI⟩ := hI
  obtain ⟨x1, hx1⟩ : ∃ x, xs (4 * t + 1) = x := ⟨_, rfl⟩
  obtain ⟨x2, hx2⟩ : ∃ x, xs (4 * t + 2) = x := ⟨_, rfl⟩
  obtain ⟨k, bb, M', C', o', hw, hM, hI2, h7, ho⟩ := agW (cd := cdL_require) (aRequire hI x1 x2) (by intro k; unfold cdL_require; (repeat' split) <;> decide) Int32.toInt64 o
  refine lv_aload_n hx hb dL_law_435 rfl (lv_at hl 3 rfl) ?_
  refine lv_aload_n hx hb dL_law_436 rfl (lv_at hl 4 rfl) ?_
  refine lv_iload hx hb dL_law_437 (lv_at hl 0 rfl) ?_
  refine lv_iconst (v := 1) hx hb dL_law_439 (by decide) ?_
  refine lv_iadd hx hb dL_law_440 ?_
  rw [show (nI (4 * t) + 1 : Int32) = nI (4 * t + 1) from nI_add (4 * t) 1]
  refine va_sld hx hb hX hbl (Nat.not_le_of_lt hbl) hS (vp_in_nI (by omega) (by omega)) dL_law_441 ?_
  rw [nI_clamp (n := 4 * t + 1) (by omega), hx1]
  refine lv_aload_n hx hb dL_law_442 rfl (lv_at hl 4 rfl) ?_
  refine lv_iload hx hb dL_law_443 (lv_at hl 0 rfl) ?_
  refine lv_iconst (v := 2) hx hb dL_law_445 (by decide) ?_
  refine lv_iadd hx hb dL_law_446 ?_
  rw [show (nI (4 * t) + 2 : Int32) = nI (4 * t + 2) from nI_add (4 * t) 2]
  refine va_sld hx hb hX hbl (Nat.not_le_of_lt hbl) hS (vp_in_nI (by omega) (by omega)) dL_law_447 ?_
  rw [nI_clamp (n := 4 * t + 2) (by omega), hx2]
  refine lv_aload_n hx hb dL_law_448 rfl (lv_at hl 1 rfl) ?_
  refine lw_x (vx_runSW (As := [.ref (q 0), .int x1, .int x2, .ref qo]) (rest := []) ⟨hx, hb, hml, hown, hts⟩ (kL_require l hl0 G q qo C o _ x1 x2 _ hw) (vx_cwSW 4 hts gL_law_L_require rfl rfl rfl (by decide +kernel) ⟨Nat.le_of_ble_eq_true rfl, Nat.le_of_ble_eq_true rfl⟩) (xS (lw_PX hP) (lw_DX hD) hS hK lw_hA hE) rfl rfl hl.1 rfl (lv_room (Nat.le_of_ble_eq_true rfl)) dL_law_449 ⟨by show cells + 1 ≤ 601024; omega, by show slots + 6 ≤ 7293034; omega⟩) hP hD hS (fun H locs hP hD hS => ?_)
  have hP : va_P G.1 vwCl (LW G qm q qo M C' o') H := hP
  have hD : va_D (LA s) (LW G qm q qo M C' o') := hD
  refine lv_istore (lv' := [(5, .int k), (4, .int (nI (4 * t))), (3, .ref qo), (2, .ref (qm 0)), (1, .ref (q 0)), (0, .ref b)]) hx hb dL_law_452 hl (by decide) rfl (fun ls hl => ?_)
  refine lv_aload_n hx hb dL_law_454 rfl (lv_at hl 3 rfl) ?_
  refine lv_aload_n hx hb dL_law_455 rfl (lv_at hl 5 rfl) ?_
  refine lv_iload hx hb dL_law_456 (lv_at hl 1 rfl) ?_
  refine lv_iconst (v := 1) hx hb dL_law_458 (by decide) ?_
  refine lv_iadd hx hb dL_law_459 ?_
  rw [show (nI (4 * t) + 1 : Int32) = nI (4 * t + 1) from nI_add (4 * t) 1]
  refine va_sld hx hb hX hbl (Nat.not_le_of_lt hbl) hS (vp_in_nI (by omega) (by omega)) dL_law_460 ?_
  rw [nI_clamp (n := 4 * t + 1) (by omega), hx1]
  refine lv_aload_n hx hb dL_law_461 rfl (lv_at hl 5 rfl) ?_
  refine lv_iload hx hb dL_law_462 (lv_at hl 1 rfl) ?_
  refine lv_iconst (v := 2) hx hb dL_law_464 (by decide) ?_
  refine lv_iadd hx hb dL_law_465 ?_
  rw [show (nI (4 * t) + 2 : Int32) = nI (4 * t + 2) from nI_add (4 * t) 2]
  refine va_sld hx hb hX hbl (Nat.not_le_of_lt hbl) hS (vp_in_nI (by omega) (by omega)) dL_law_466 ?_
  rw [nI_clamp (n := 4 * t + 2) (by omega), hx2]
  refine lm_i (va_runV (As := [.int x1, .int x2]) (rest := []) ⟨hx, hb, hml, hown, hts⟩ (kX7_require l G qm M _ x1 x2 _ hM) (cwV 2 hts gL_law_X7_require rfl rfl rfl (by decide +kernel) ⟨Nat.le_of_ble_eq_true rfl, Nat.le_of_ble_eq_true rfl⟩) (wrV (lw_PM hP) (lw_DM hD) hK 8 0 rfl rfl) rfl rfl hl.1 rfl (lv_room (Nat.le_of_ble_eq_true rfl)) dL_law_467 ⟨by show cells + 1 + 0 ≤ 601024; omega, by show slots + 6 + 0 ≤ 7293034; omega⟩) hP hD hS (fun H locs hP hD hS => ?_)
  have hP : va_P G.1 vwCl (LW G qm q qo M' C' o') H := hP
  have hD : va_D (LA s) (LW G qm q qo M' C' o') := hD
  refine lv_istore (lv' := [(6, .int bb), (5, .int k), (4, .int (nI (4 * t))), (3, .ref qo), (2, .ref (qm 0)), (1, .ref (q 0)), (0, .ref b)]) hx hb dL_law_470 hl (by decide) rfl (fun ls hl => ?_)
  refine lv_aload_n hx hb dL_law_472 rfl (lv_at hl 4 rfl) ?_
  refine ro_i (va_runV (As := []) (rest := []) ⟨hx, hb, hml, hown, hts⟩ (kX7_thrown l G qm M' _ rfl) (cwV 0 hts gL_law_X7_thrown rfl rfl rfl (by decide +kernel) ⟨Nat.le_of_ble_eq_true rfl, Nat.le_of_ble_eq_true rfl⟩) (roV (lw_PM hP) hK 8 0 rfl rfl) rfl rfl hl.1 rfl (lv_room (Nat.le_of_ble_eq_true rfl)) dL_law_473 ⟨by show cells + 1 + 0 + 0 ≤ 601024; omega, by show slots + 6 + 0 + 0 ≤ 7293034; omega⟩) ?_
  rw [h7]
  refine lv_iload hx hb dL_law_476 (lv_at hl 1 rfl) ?_
  refine lv_icmp_eq (tgt := 483) hx hb dL_law_478 (by decide) (fun _ => ?_) (fun c_ => absurd rfl c_)
  refine lv_iload hx hb dL_law_483 (lv_at hl 1 rfl) ?_
  refine lv_if_ne (tgt := 500) hx hb dL_law_485 (by decide) (fun _ => ?_) (fun z => ?_)
  · skip
    refine lv_goto (tgt := 2033) hx hb dL_law_500 (by decide) ?_
    exact W.widen (k := cells + 60) (n := slots + 4000) (by omega) (by omega) (hN _ _ _ _ _ _ hI2 hP hD hS (lv_sub hl [2, 3, 4, 5, 6] rfl))
  · skip
    refine lv_aload_n hx hb dL_law_488 rfl (lv_at hl 3 rfl) ?_
    refine lv_iconst (v := 0) hx hb dL_law_489 (by decide) ?_
    refine va_lald (D := G.1) hx hb hK.1 hP 37 3 rfl rfl (by unfold vp_in; decide) dL_law_490 ?_
    rw [show (0 : Int32).toNatClampNeg = 0 from rfl]
    refine lv_iload hx hb dL_law_491 (lv_at hl 0 rfl) ?_
    refine lv_i2l (v := Int32.toInt64 bb) hx hb dL_law_493 rfl ?_
    refine W.lcmp hx hb dL_law_494 ?_
    rw [ho z, lcmp0]
    refine lv_if_eq (tgt := 500) hx hb dL_law_495 (by decide) (fun _ => ?_) (fun c_ => absurd rfl c_)
    refine lv_goto (tgt := 2033) hx hb dL_law_500 (by decide) ?_
    exact W.widen (k := cells + 60) (n := slots + 4000) (by omega) (by omega) (hN _ _ _ _ _ _ hI2 hP hD hS (lv_sub hl [2, 3, 4, 5, 6] rfl))

