set_option maxHeartbeats 4000000 in
set_option maxRecDepth 100000 in
theorem whole_start {p : Program} {e : Env} {s : State} {m : MethodId} {below : List Frame} {meth : Method} {c : Code} (l : Launch) (hflags : l.flags = flags0) {b L : Nat} {xs : Nat → Int32} (hL : L ≤ 260) (C0 : lw_At p s m meth c b L xs) : W p l e room_1 s m #[Value.ref b] below meth c s.heap [] 0 0 (lw_Z below #[Value.ref b] s) (entryFrame m ([Value.ref b] : List Value).toArray 6) := by
  obtain ⟨hx, hb, hr, hml, hown, ht0, hX, hbl, hlocks, hgv⟩ := id C0
  have hts : ∀ w ∈ wsL_law, w.before #[Value.ref b] s = true := fun w h => ht0 w (wsL_law_in w h)
  have hg : ∀ w ∈ lw_nar, w.before #[Value.ref b] s = true := flat_of_before _ hgv
  obtain ⟨G, hK⟩ := law_CK ht0
  have hE := law_XE ht0 hg
  have hl0 : l.stackTraces = false := by unfold Launch.stackTraces; rw [hflags]; decide
  have hA : ∀ q : Nat, s.heap.size ≤ q → LA s q := lw_hA
  have hS : va_S (LA s) s.heap s.heap [] := va_S.rf
  have hbA : ¬ LA s b := la_no b hbl
  have hT : (L, xs).1 < 2 ^ 31 := show L < 2 ^ 31 by omega
  have hP : va_P G.1 vwCl [] s.heap := fun k q h => by simp at h
  have hD : va_D (LA s) [] := ⟨fun i j p q h => by simp at h, fun k q h => by simp at h⟩
  have hl := lv_entry ([.ref b]) (n := 6) (Nat.le_of_ble_eq_true rfl)
  rw [lg_entry_eq]
  generalize (lg_sl ([.ref b]) ++ List.replicate (6 - (lg_sl ([.ref b])).length) Slot.unset).toArray = ls at hl ⊢
  have hl : lv_has ls 6 [(0, .ref b)] := hl
  refine lv_sipush (v := 250) hx hb dL_law_0 (by decide) ?_
  refine va_newa (D := G.1) (atype := .int) hx hb (w_mem hts 0 rfl) rfl hK.1 hP hD hS hA (N' := 250) (a0 := (250, .inl zr)) (fun _ => rfl) (by decide) (by decide) (Nat.le_of_ble_eq_true rfl) (Nat.le_of_ble_eq_true rfl) (Nat.le_of_ble_eq_true rfl) dL_law_3 (fun qn cA H hK1 hP hD hS => ?_)
  have e9 := tyI hK1
  subst e9
  clear hK1
  have hP : va_P G.1 vwCl [cpE G qn zr] _ := hP
  have hD : va_D (LA s) [cpE G qn zr] := hD
  refine lv_astore_n (lv' := [(1, .ref qn), (0, .ref b)]) hx hb dL_law_5 rfl hl (by decide) rfl (fun ls hl => ?_)
  refine lv_aload_n hx hb dL_law_6 rfl (lv_at hl 1 rfl) ?_
  refine lv_aload_n hx hb dL_law_7 rfl (lv_at hl 0 rfl) ?_
  refine j_r (Wd := fun (v : (Nat → Nat) × St) r => LW G (va_up v.1 0 r) v.2) (wc := [cpE G qn zr]) (wr := []) (va_runS (As := [.ref b, .ref qn]) (rest := []) ⟨hx, hb, hml, hown, hts⟩ (kL_begun l hl0 G (fun _ => qn) b (L, xs) hT _) (va_cwS 2 hts gL_law_L_begun rfl rfl rfl (by decide +kernel) ⟨Nat.le_of_ble_eq_true rfl, Nat.le_of_ble_eq_true rfl⟩) (xsS hP hD hS hK hA hE hX hbl hbA) rfl rfl hl.1 rfl (lv_room (Nat.le_of_ble_eq_true rfl)) dL_law_8 ⟨Nat.le_of_ble_eq_true rfl, Nat.le_of_ble_eq_true rfl⟩) hP hD hS hA [0] [] rfl rfl (by decide) (by decide) (fun v r H locs hv hP hD hS => ?_)
  obtain ⟨hJ, hv20⟩ := hv
  refine lv_astore_n (lv' := [(2, .ref r), (1, .ref qn), (0, .ref b)]) hx hb dL_law_11 rfl hl (by decide) rfl (fun ls hl => ?_)
  have hP : va_P G.1 vwCl (LW G (va_up v.1 0 r) v.2) _ := hP
  have hD : va_D (LA s) (LW G (va_up v.1 0 r) v.2) := hD
  obtain ⟨u, hu, hu0, hu20⟩ : ∃ u : Nat → Nat, u = va_up v.1 0 r ∧ u 0 = r ∧ u 20 = qn := ⟨_, rfl, va_up_self _ _ _, (va_up_ne _ _ (by decide)).trans hv20⟩
  rw [← hu] at hP hD
  rw [← hu0, ← hu20] at hl
  refine lv_aload_n hx hb dL_law_12 rfl (lv_at hl 0 rfl) ?_
  refine lv_ifnonnull (tgt := 18) hx hb dL_law_13 (by decide) ?_
  refine lv_iconst (v := 0) hx hb dL_law_18 (by decide) ?_
  refine lv_istore_n (lv' := [(3, .int (nI 0)), (2, .ref (u 0)), (1, .ref (u 20)), (0, .ref b)]) hx hb dL_law_19 rfl hl (by decide) rfl (fun ls hl => ?_)
  refine W.widen (k := 28 + 3 * 0) (n := 547 + 262 * 0) (Nat.le_of_ble_eq_true rfl) (Nat.le_of_ble_eq_true rfl) ?_
  exact law_loop (u := u) (xs := xs) (L := L) ⟨⟨hx, hb, hr, hts, hown, hml, hlocks⟩, hl0, hK, hE, hX, hbl, hL⟩ 24 0 rfl v.2 H _ ls hJ hP hD hS hl
