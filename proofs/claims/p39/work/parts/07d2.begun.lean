theorem in_wsL_begun_X6 : ∀ w ∈ u_ws RX6 TX6 7, w ∈ wsL_begun := by decide +kernel
/-! ===== the beginning: an object, its first features ===== -/
def rmL_begun : Room := { frames := 10, cells := 27, slots := 297, locals := 192 }
theorem net0 : NetR D0 0 0 (upd (upd zr 0 1) 70 12) := by
  refine ⟨⟨rfl, rfl, rfl, rfl⟩, ⟨fun f h1 h2 => ?_, fun f h1 => ?_, fun f h1 => ?_, fun f h1 => ?_⟩, fun r hr => absurd hr (Nat.not_lt_zero r), fun r h1 h2 => ?_⟩
  · have : D0 0 0 = 1 := rfl
    omega
  · rw [up_ne (by omega), up_ne (by omega), d0_z (by decide) (by decide)]; rfl
  · have : D0 0 0 = 1 := rfl
    have z : f = 0 := by omega
    subst z; rfl
  · rw [up_ne (by omega), up_ne (by omega), d0_z (by decide) (by decide)]; rfl
  · rw [up_ne (by omega), up_ne (by omega)]; rfl
/-- a fresh object beside the law's row with its first two numbers -/
def CB : St := (C0.1, fun k => if k = 14 then upd (upd zr 0 1) 70 12 else C0.2 k)
theorem jn0 : JN D0 0 0 CB := by
  obtain ⟨w, hio, hex, hC, _⟩ := inv0
  exact ⟨⟨w, hio, hex, hC.alk ⟨rfl, fun j hj => if_neg (by omega)⟩⟩, net0, by decide⟩
set_option maxHeartbeats 4000000 in
set_option maxRecDepth 100000 in
theorem begun_loop {p : Program} {l : Launch} {e : Env} {s : State} {m : MethodId} {below : List Frame} {meth : Method} {c : Code} {args : Array Value} {G : GT} {u : Nat → Nat} {A : Nat → Prop} {T : SC} {sb : Nat} {Q : State → Prop} (bx : BX p RL wsL_begun cL_begun 5 (some (.object "TreeConfigurator")) s m args meth c) (hA : ∀ q : Nat, s.heap.size ≤ q → A q) (hK : CK G s) (hl0 : l.stackTraces = false) (hE : XE A s) (hX : va_X sb T.1 T.2 s s.heap) (hbl : sb < s.heap.size) (hbA : ¬ A sb) (hL : T.1 < 2 ^ 31)
    (fin : ∀ (C : St) (H : Heap) (locs : List Loc) (ls : Array Slot), JX 1 C → va_P G.1 vwCl (LW G u C) H → va_D A (LW G u C) → va_S A s.heap H locs → lv_has ls 5 [(4, .int (nI 0)), (3, .int 1), (2, .ref (u 0)), (1, .ref (u 20)), (0, .ref sb)] → W p l e rmL_begun s m args below meth c H locs 27 297 Q (F0 m 57 ls [])) :
    ∀ (n : Nat), n ≤ 7 → ∀ (C : St) (H : Heap) (locs : List Loc) (ls : Array Slot), JX 1 C → va_P G.1 vwCl (LW G u C) H → va_D A (LW G u C) → va_S A s.heap H locs → lv_has ls 5 [(4, .int (nI n)), (3, .int 1), (2, .ref (u 0)), (1, .ref (u 20)), (0, .ref sb)] → W p l e rmL_begun s m args below meth c H locs (27 - n) (297 - 6 * n) Q (F0 m 31 ls []) := by
  obtain ⟨hx, hb, hr, hts, hown, hml, hlocks⟩ := id bx
  intro n
  induction n with
  | zero =>
    intro _ C H locs ls hJ hP hD hS hl
    refine lv_iload hx hb dL_begun_31 (lv_at hl 0 rfl) ?_
    refine lv_if_le (tgt := 57) hx hb dL_begun_33 (by decide) (fun _ => ?_) (fun c_ => absurd (show nI 0 ≤ 0 by decide) c_)
    exact fin C H locs ls hJ hP hD hS hl
  | succ n ih =>
    intro hn C H locs ls hJ hP hD hS hl
    obtain ⟨D, i, o, hJ, hm⟩ := hJ
    have e3 : (1 : Int32) + 3 * nI (n + 1) = nI (1 + 3 * (n + 1)) := by
      rw [show (3 : Int32) * nI (n + 1) = nI (3 * (n + 1)) from pk_mul 3 (n + 1)]
      exact nI_add 1 _
    obtain ⟨C', f1, f2⟩ := lFeature (T := T) hJ hL (show 1 + 3 * (n + 1) < 1000 by omega)
    obtain ⟨D', i', o', f3, f4⟩ := f2
    refine lv_iload hx hb dL_begun_31 (lv_at hl 0 rfl) ?_
    refine lv_if_le (tgt := 57) hx hb dL_begun_33 (by decide) (fun c_ => absurd c_ (nleN (b := 0) (by omega) (by decide) (by omega))) (fun _ => ?_)
    refine lv_iload_n hx hb dL_begun_36 rfl (lv_at hl 1 rfl) ?_
    refine lv_aload_n hx hb dL_begun_37 rfl (lv_at hl 2 rfl) ?_
    refine lv_aload_n hx hb dL_begun_38 rfl (lv_at hl 3 rfl) ?_
    refine lv_aload_n hx hb dL_begun_39 rfl (lv_at hl 4 rfl) ?_
    refine lv_iconst (v := 1) hx hb dL_begun_40 (by decide) ?_
    refine lv_iconst (v := 3) hx hb dL_begun_41 (by decide) ?_
    refine lv_iload hx hb dL_begun_42 (lv_at hl 0 rfl) ?_
    refine lv_imul hx hb dL_begun_44 ?_
    refine lv_iadd hx hb dL_begun_45 ?_
    rw [e3]
    refine wg_i (Wd := LW G u) (va_runS (As := [.ref (u 0), .ref (u 20), .ref sb, .int (nI (1 + 3 * (n + 1)))]) (rest := [.int 1]) ⟨hx, hb, hml, hown, hts⟩ (kL_isFeature l hl0 G u sb T C _ (nI (1 + 3 * (n + 1))) (1, C') f1) (va_cwS 4 hts gL_begun_L_isFeature rfl rfl rfl (by decide +kernel) ⟨Nat.le_of_ble_eq_true rfl, Nat.le_of_ble_eq_true rfl⟩) (xsS hP hD hS hK hA hE hX hbl hbA) rfl rfl hl.1 rfl (lv_room (Nat.le_of_ble_eq_true rfl)) dL_begun_46 ⟨by show 27 - (n + 1) + 1 ≤ 27; omega, by show 297 - 6 * (n + 1) + 6 ≤ 297; omega⟩) hD hS hA (fun _ => rfl) (fun H locs hP hD hS => ?_)
    refine lv_iand hx hb dL_begun_49 ?_
    rw [show (1 : Int32) &&& ((1 : Int32), C').1 = 1 from by show (1 : Int32) &&& 1 = 1; decide]
    refine lv_istore_n (lv' := [(3, .int 1), (4, .int (nI (n + 1))), (2, .ref (u 0)), (1, .ref (u 20)), (0, .ref sb)]) hx hb dL_begun_50 rfl hl (by decide) rfl (fun ls hl => ?_)
    refine lv_iinc (v := nI n) (lv' := [(4, .int (nI n)), (3, .int 1), (2, .ref (u 0)), (1, .ref (u 20)), (0, .ref sb)]) hx hb dL_begun_51 hl (k := 1) rfl (pk_m1 n) (by decide) rfl (fun ls hl => ?_)
    refine lv_goto (tgt := 31) hx hb dL_begun_54 (by decide) ?_
    refine W.widen (k := 27 - n) (n := 297 - 6 * n) (by omega) (by omega) ?_
    exact ih (by omega) C' H locs ls ⟨D', i', o', f3, by omega⟩ hP hD hS hl
set_option maxHeartbeats 4000000 in
set_option maxRecDepth 100000 in
theorem kL_begun (l : Launch) (hl0 : l.stackTraces = false) (G : GT) (q : Nat → Nat) (sb : Nat) (T : SC) (hL : T.1 < 2 ^ 31) (sz : Nat) : Met l yL_begun wsL_begun rmL_begun (va_Pc [.ref sb, .ref (q 20)] (xsP G [cpE G (q 20) zr] sz sb T)) (va_Qr (fun v : (Nat → Nat) × St => JX 1 v.2 ∧ v.1 20 = q 20) (fun v r t => va_P G.1 vwCl (LW G (va_up v.1 0 r) v.2) t.heap ∧ va_D (va_A [cpE G (q 20) zr] sz) (LW G (va_up v.1 0 r) v.2)) (va_A [cpE G (q 20) zr] sz)) 27 297 (va_A [cpE G (q 20) zr] sz) := by
  refine Met.ofW (cc := cL_begun) (maxL := 5) (ret := (some (.object "TreeConfigurator"))) (by decide) rfl ?_
  intro p e s m args below meth c s₁ B hml hv
  obtain ⟨rfl, ⟨⟨hsz, hP, hK, hD0⟩, hE⟩, hX, hbl, hbA⟩ := hv
  have bx := bx_of B hml
  subst hsz
  have hD := hD0.self (sz := s.heap.size)
  generalize hAe : va_A [cpE G (q 20) zr] s.heap.size = A at hD hE hbA ⊢
  have hA : ∀ q : Nat, s.heap.size ≤ q → A q := fun q h => by rw [← hAe]; exact Or.inr h
  have hS : va_S A s.heap s.heap [] := va_S.rf
  obtain ⟨hx, hb, hr, hts, hown, hml, hlocks⟩ := id bx
  have hl := lv_entry ([.ref sb, .ref (q 20)]) (n := 5) (Nat.le_of_ble_eq_true rfl)
  rw [lg_entry_eq]
  generalize (lg_sl ([.ref sb, .ref (q 20)]) ++ List.replicate (5 - (lg_sl ([.ref sb, .ref (q 20)])).length) Slot.unset).toArray = ls at hl ⊢
  have hl : lv_has ls 5 [(0, .ref sb), (1, .ref (q 20))] := hl
  show W p l e rmL_begun s m _ below meth c s.heap [] 0 0 _ (F0 m 0 ls [])
  refine va_new (D := G.1) (ci := 5) (fs := [.null, .null, .null, .null, .null, .int 0, .int 0]) (C := RX6) (T := TX6) (N := 7) hx hb hts in_wsL_begun_X6 tyX6 tyX6_ok hown (w_mem hts 1 rfl) (w_mem hts 2 rfl) (w_mem hts 3 rfl) hK.1 hP hD hS hA rfl (fun j hj => by rcases (show j = 0 ∨ j = 1 ∨ j = 2 ∨ j = 3 ∨ j = 4 ∨ j = 5 ∨ j = 6 by omega) with rfl | rfl | rfl | rfl | rfl | rfl | rfl <;> rfl) (Nat.le_of_ble_eq_true rfl) (Nat.le_of_ble_eq_true rfl) dL_begun_0 (fun qx H hP hD hS => ?_)
  have hP : va_P G.1 vwCl [cpE G (q 20) zr, (qx, .inr (5, [.null, .null, .null, .null, .null, .int 0, .int 0]))] _ := hP
  have hD : va_D A [cpE G (q 20) zr, (qx, .inr (5, [.null, .null, .null, .null, .null, .int 0, .int 0]))] := hD
  refine lv_dup hx hb dL_begun_3 rfl ?_
  refine j_v (Wd := fun u : Nat → Nat => CW G u C0) (wc := [(qx, .inr (5, [.null, .null, .null, .null, .null, .int 0, .int 0]))]) (wr := [cpE G (q 20) zr]) (va_runI (As := []) (rest := [.ref qx]) ⟨hx, hb, hml, hown, hts⟩ (kX6_init l G qx _) (cwI 0 hts gL_begun_X6_init rfl rfl rfl (w_mem hts 3 rfl) (w_mem hts 4 rfl) (w_mem hts 5 rfl) rfl (by decide +kernel) ⟨Nat.le_of_ble_eq_true rfl, Nat.le_of_ble_eq_true rfl⟩) (wrS (hP.sub (ws' := [(qx, .inr (5, [.null, .null, .null, .null, .null, .int 0, .int 0]))]) [1] rfl) (hD.sub (ws' := [(qx, .inr (5, [.null, .null, .null, .null, .null, .int 0, .int 0]))]) [1] (by decide) rfl) hK) rfl rfl hl.1 rfl (lv_room (Nat.le_of_ble_eq_true rfl)) dL_begun_4 ⟨Nat.le_of_ble_eq_true rfl, Nat.le_of_ble_eq_true rfl⟩) hP hD hS hA [1] [0] rfl rfl (by decide) (by decide) (fun u0 H locs hu hP hD hS => ?_)
  refine lv_astore_n (lv' := [(2, .ref qx), (0, .ref sb), (1, .ref (q 20))]) hx hb dL_begun_7 rfl hl (by decide) rfl (fun ls hl => ?_)
  have hP : va_P G.1 vwCl ([cpE G (q 20) zr] ++ CW G u0 C0) _ := hP
  have hD : va_D A ([cpE G (q 20) zr] ++ CW G u0 C0) := hD
  refine lv_aload_n hx hb dL_begun_8 rfl (lv_at hl 2 rfl) ?_
  refine lv_iconst (v := 0) hx hb dL_begun_9 (by decide) ?_
  refine lv_iconst (v := 1) hx hb dL_begun_10 (by decide) ?_
  refine va_iast (D := G.1) hx hb hK.1 hP hD hS 0 0 rfl rfl (by unfold vp_in; decide) dL_begun_11 (fun H locs hP hD hS => ?_)
  have hP : va_P G.1 vwCl ([cpE G (q 20) (upd zr 0 1)] ++ CW G u0 C0) _ := hP
  have hD : va_D A ([cpE G (q 20) (upd zr 0 1)] ++ CW G u0 C0) := hD
  refine lv_aload_n hx hb dL_begun_12 rfl (lv_at hl 2 rfl) ?_
  refine lv_bipush (v := 70) hx hb dL_begun_13 (by decide) ?_
  refine lv_bipush (v := 12) hx hb dL_begun_15 (by decide) ?_
  refine va_iast (D := G.1) hx hb hK.1 hP hD hS 0 0 rfl rfl (by unfold vp_in; decide) dL_begun_17 (fun H locs hP hD hS => ?_)
  have hP : va_P G.1 vwCl ([cpE G (q 20) (upd (upd zr 0 1) 70 12)] ++ CW G u0 C0) _ := hP
  have hD : va_D A ([cpE G (q 20) (upd (upd zr 0 1) 70 12)] ++ CW G u0 C0) := hD
  have eW : LW G (va_up u0 20 (q 20)) CB = CW G u0 C0 ++ [cpE G (q 20) (upd (upd zr 0 1) 70 12)] := rfl
  have hP := hP.sub (ws' := LW G (va_up u0 20 (q 20)) CB) [1, 2, 3, 4, 5, 6, 7, 8, 9, 10, 11, 12, 13, 14, 15, 16, 17, 18, 19, 20, 0] (by rw [eW]; rfl)
  have hD := hD.sub (ws' := LW G (va_up u0 20 (q 20)) CB) [1, 2, 3, 4, 5, 6, 7, 8, 9, 10, 11, 12, 13, 14, 15, 16, 17, 18, 19, 20, 0] (by decide) (by rw [eW]; rfl)
  have hu0 : u0 0 = qx := hu
  obtain ⟨u, hu1, hu20⟩ : ∃ u : Nat → Nat, u = va_up u0 20 (q 20) ∧ u 20 = q 20 := ⟨_, rfl, va_up_self _ _ _⟩
  have hux : u 0 = qx := by rw [hu1, va_up_ne _ _ (by decide)]; exact hu0
  rw [← hu1] at hP hD
  rw [← hux, ← hu20] at hl
  refine lv_iconst (v := 1) hx hb dL_begun_18 (by decide) ?_
  refine lv_istore_n (lv' := [(3, .int 1), (2, .ref (u 0)), (0, .ref sb), (1, .ref (u 20))]) hx hb dL_begun_19 rfl hl (by decide) rfl (fun ls hl => ?_)
  refine lv_iconst (v := 2) hx hb dL_begun_20 (by decide) ?_
  refine lv_aload_n hx hb dL_begun_21 rfl (lv_at hl 2 rfl) ?_
  refine lv_iconst (v := 0) hx hb dL_begun_22 (by decide) ?_
  refine lv_bipush (v := 6) hx hb dL_begun_23 (by decide) ?_
  obtain ⟨j, hj, ej⟩ := lIn (T := T) hL (show 0 < 2 ^ 31 by decide) (show 1 ≤ 6 by decide) (show 6 < 2 ^ 31 by decide)
  refine ro_i (va_runS (As := [.ref sb, .int (nI 0), .int (nI 6)]) (rest := [.int 2]) ⟨hx, hb, hml, hown, hts⟩ (kL_in l sb T (nI 0) (nI 6) (nI j) ej) (va_cwS 3 hts gL_begun_L_in rfl rfl rfl (by decide +kernel) ⟨Nat.le_of_ble_eq_true rfl, Nat.le_of_ble_eq_true rfl⟩) (scS hX hbl hbA hS) rfl rfl hl.1 rfl (lv_room (Nat.le_of_ble_eq_true rfl)) dL_begun_25 ⟨Nat.le_of_ble_eq_true rfl, Nat.le_of_ble_eq_true rfl⟩) ?_
  refine lv_iadd hx hb dL_begun_28 ?_
  rw [show (2 : Int32) + nI j = nI (2 + j) from nI_add 2 j]
  refine lv_istore (lv' := [(4, .int (nI (2 + j))), (3, .int 1), (2, .ref (u 0)), (0, .ref sb), (1, .ref (u 20))]) hx hb dL_begun_29 hl (by decide) rfl (fun ls hl => ?_)
  have hl : lv_has ls 5 [(4, .int (nI (2 + j))), (3, .int 1), (2, .ref (u 0)), (1, .ref (u 20)), (0, .ref sb)] := lv_sub hl [0, 1, 2, 4, 3] rfl
  refine W.widen (k := 27 - (2 + j)) (n := 297 - 6 * (2 + j)) (by omega) (by omega) ?_
  refine begun_loop (T := T) (u := u) bx hA hK hl0 hE hX hbl hbA hL (fun C H locs ls hJ hP hD hS hl => ?_) (2 + j) (by omega) CB H _ ls ⟨D0, 0, 0, jn0, by decide⟩ hP hD hS hl
  refine lv_iload_n hx hb dL_begun_57 rfl (lv_at hl 1 rfl) ?_
  refine lv_if_eq (tgt := 65) hx hb dL_begun_58 (by decide) (fun c_ => absurd c_ (by decide)) (fun _ => ?_)
  refine lv_aload_n hx hb dL_begun_61 rfl (lv_at hl 2 rfl) ?_
  refine lv_goto (tgt := 66) hx hb dL_begun_62 (by decide) ?_
  have eu : va_up u 0 (u 0) = u := by
    funext j
    unfold va_up
    by_cases h : j = 0
    · rw [if_pos h, h]
    · rw [if_neg h]
  exact W.aret hx hb hr (Or.inl ⟨_, rfl⟩) (Or.inr ⟨_, rfl⟩) (fun t ht _ => ⟨⟨(u, C), u 0, rfl, ⟨hJ, hu20⟩, by show va_P G.1 vwCl (LW G (va_up u 0 (u 0)) C) t.heap; rw [eu, ht]; exact hP, by show va_D A (LW G (va_up u 0 (u 0)) C); rw [eu]; exact hD⟩, hS.F ht⟩) hS.2.2 dL_begun_66 hlocks
