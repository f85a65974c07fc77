theorem lp_cmp {L t : Nat} (hL : L ≤ 2048) (h : ¬ nI L - 4 < nI (4 * t)) : 4 * t < L - 3 ∨ 4 * t ≥ 2 ^ 30 := by
  rcases Nat.lt_or_ge (4 * t) (2 ^ 30) with q | q
  · left
    have e : (nI L - nI 4).toInt = (L : Int) - (4 : Nat) := pk_sub_toInt (by omega) (by decide)
    rw [show (4 : Int32) = nI 4 from rfl, Int32.lt_iff_toInt_lt, e, nI_toInt (by omega)] at h
    omega
  · exact Or.inr q
theorem sw_36 (v : Int32) : (∃ k, k < 36 ∧ v = nI k) ∨ (v.toInt < 0 ∨ 35 < v.toInt) := by
  by_cases h : v.toInt < 0
  · exact Or.inr (Or.inl h)
  · by_cases h2 : 35 < v.toInt
    · exact Or.inr (Or.inr h2)
    · refine Or.inl ⟨v.toInt.toNat, by omega, ?_⟩
      rw [← Int32.toInt_inj, nI_toInt (by omega)]
      omega
set_option maxHeartbeats 4000000 in
set_option maxRecDepth 100000 in
theorem law_loop {p : Program} {l : Launch} {e : Env} {s : State} {m : MethodId} {below : List Frame} {meth : Method} {c : Code} {b L : Nat} {xs : Nat → Int32} {G : GT} {qm q : Nat → Nat} {qo : Nat} (hL : LE p l s m meth c b L xs G) : ∀ (d t : Nat), L < 4 * t + 4 * d + 4 → t ≤ 600 → ∀ (C M : St) (o : Nat → Int64) (H : Heap) (locs : List Loc) (ls : Array Slot), Inv C M → va_P G.1 vwCl (LW G qm q qo M C o) H → va_D (LA s) (LW G qm q qo M C o) → va_S (LA s) s.heap H locs → lv_has ls 9 (lwL b (qm 0) (q 0) qo t) → W p l e room_1 s m #[.ref b] below meth c H locs (100 + 60 * t) (1000 + 4000 * t) (lw_Z below #[Value.ref b] s) (F0 m 23 ls []) := by
  obtain ⟨⟨hx, hb, hr, hts, hown, hml, hlocks⟩, hl0, hK, hE, hZ, hX, hbl, hL2⟩ := id hL
  intro d
  induction d with
  | zero =>
    intro t h1 h2 C M o H locs ls hI hP hD hS hl
    refine lv_iload hx hb dL_law_23 (lv_at hl 0 rfl) ?_
    refine lv_aload_n hx hb dL_law_25 rfl (lv_at hl 4 rfl) ?_
    refine va_slen hx hb hX hbl (Nat.not_le_of_lt hbl) hS dL_law_26 ?_
    refine lv_iconst (v := 4) hx hb dL_law_27 (by decide) ?_
    refine lv_isub hx hb dL_law_28 ?_
    refine lv_icmp_gt (tgt := 2039) hx hb dL_law_29 (by decide) (fun _ => ?_) (fun c_ => ?_)
    · exact lv_iconst (v := 1) hx hb dL_law_2039 (by decide) (va_forget (fun q hq => hS.2.2 q hq) (W.widen (k := 601024) (n := 7293034) (by omega) (by omega) (W.base (lw_ret (Drawn.sameBut.refl s.drawn lw_cs) hx hb hr hlocks dL_law_2040))))
    · exfalso
      rcases lp_cmp hL2 c_ with q | q <;> omega
  | succ d ih =>
    intro t h1 h2 C M o H locs ls hI hP hD hS hl
    refine lv_iload hx hb dL_law_23 (lv_at hl 0 rfl) ?_
    refine lv_aload_n hx hb dL_law_25 rfl (lv_at hl 4 rfl) ?_
    refine va_slen hx hb hX hbl (Nat.not_le_of_lt hbl) hS dL_law_26 ?_
    refine lv_iconst (v := 4) hx hb dL_law_27 (by decide) ?_
    refine lv_isub hx hb dL_law_28 ?_
    refine lv_icmp_gt (tgt := 2039) hx hb dL_law_29 (by decide) (fun _ => ?_) (fun c_ => ?_)
    · exact lv_iconst (v := 1) hx hb dL_law_2039 (by decide) (va_forget (fun q hq => hS.2.2 q hq) (W.widen (k := 601024) (n := 7293034) (by omega) (by omega) (W.base (lw_ret (Drawn.sameBut.refl s.drawn lw_cs) hx hb hr hlocks dL_law_2040))))
    · have ht : 4 * t + 3 < L := by rcases lp_cmp hL2 c_ with q | q <;> omega
      have hN : LN p l e s m below meth c b G qm q qo t (100 + 60 * t) (1000 + 4000 * t) (lw_Z below #[Value.ref b] s) := by
        intro C M o H locs ls hI hP hD hS hl
        refine lv_iinc (v := nI (4 * (t + 1))) (lv' := lwL b (qm 0) (q 0) qo (t + 1)) hx hb dL_law_2033 hl (k := 0) rfl (nI_add (4 * t) 4) (by decide) rfl (fun ls hl => ?_)
        refine lv_goto (tgt := 23) hx hb dL_law_2036 (by decide) ?_
        exact W.widen (k := 100 + 60 * (t + 1)) (n := 1000 + 4000 * (t + 1)) (by omega) (by omega) (ih (t + 1) (by omega) (by omega) C M o H locs ls hI hP hD hS hl)
      have hc : (100 + 60 * t) + 60 ≤ 601024 ∧ (1000 + 4000 * t) + 4000 ≤ 7293034 := by omega
      refine lv_aload_n hx hb dL_law_32 rfl (lv_at hl 4 rfl) ?_
      refine lv_iload hx hb dL_law_33 (lv_at hl 0 rfl) ?_
      refine va_sld hx hb hX hbl (Nat.not_le_of_lt hbl) hS (vp_in_nI (by omega) (by omega)) dL_law_35 ?_
      refine lv_bipush (v := 63) hx hb dL_law_36 (by decide) ?_
      refine lv_iand hx hb dL_law_38 ?_
      generalize (xs (nI (4 * t)).toNatClampNeg &&& 63) = v
      rcases sw_36 v with ⟨k, hk, rfl⟩ | hv
      · have hk2 : k = 0 ∨ k = 1 ∨ k = 2 ∨ k = 3 ∨ k = 4 ∨ k = 5 ∨ k = 6 ∨ k = 7 ∨ k = 8 ∨ k = 9 ∨ k = 10 ∨ k = 11 ∨ k = 12 ∨ k = 13 ∨ k = 14 ∨ k = 15 ∨ k = 16 ∨ k = 17 ∨ k = 18 ∨ k = 19 ∨ k = 20 ∨ k = 21 ∨ k = 22 ∨ k = 23 ∨ k = 24 ∨ k = 25 ∨ k = 26 ∨ k = 27 ∨ k = 28 ∨ k = 29 ∨ k = 30 ∨ k = 31 ∨ k = 32 ∨ k = 33 ∨ k = 34 ∨ k = 35 := by omega
        rcases hk2 with rfl | rfl | rfl | rfl | rfl | rfl | rfl | rfl | rfl | rfl | rfl | rfl | rfl | rfl | rfl | rfl | rfl | rfl | rfl | rfl | rfl | rfl | rfl | rfl | rfl | rfl | rfl | rfl | rfl | rfl | rfl | rfl | rfl | rfl | rfl | rfl
        · exact lv_tableIn (tgt := 196) hx hb dL_law_39 (by decide) (by decide) (off := 157) (by decide) (by decide) (law_c0 hL ht hc hN hI hP hD hS hl)
        · exact lv_tableIn (tgt := 264) hx hb dL_law_39 (by decide) (by decide) (off := 225) (by decide) (by decide) (law_c1 hL ht hc hN hI hP hD hS hl)
        · exact lv_tableIn (tgt := 355) hx hb dL_law_39 (by decide) (by decide) (off := 316) (by decide) (by decide) (law_c2 hL ht hc hN hI hP hD hS hl)
        · exact lv_tableIn (tgt := 435) hx hb dL_law_39 (by decide) (by decide) (off := 396) (by decide) (by decide) (law_c3 hL ht hc hN hI hP hD hS hl)
        · exact lv_tableIn (tgt := 503) hx hb dL_law_39 (by decide) (by decide) (off := 464) (by decide) (by decide) (law_c4 hL ht hc hN hI hP hD hS hl)
        · exact lv_tableIn (tgt := 571) hx hb dL_law_39 (by decide) (by decide) (off := 532) (by decide) (by decide) (law_c5 hL ht hc hN hI hP hD hS hl)
        · exact lv_tableIn (tgt := 651) hx hb dL_law_39 (by decide) (by decide) (off := 612) (by decide) (by decide) (law_c6 hL ht hc hN hI hP hD hS hl)
        · exact lv_tableIn (tgt := 707) hx hb dL_law_39 (by decide) (by decide) (off := 668) (by decide) (by decide) (law_c7 hL ht hc hN hI hP hD hS hl)
        · exact lv_tableIn (tgt := 763) hx hb dL_law_39 (by decide) (by decide) (off := 724) (by decide) (by decide) (law_c8 hL ht hc hN hI hP hD hS hl)
        · exact lv_tableIn (tgt := 819) hx hb dL_law_39 (by decide) (by decide) (off := 780) (by decide) (by decide) (law_c9 hL ht hc hN hI hP hD hS hl)
        · exact lv_tableIn (tgt := 875) hx hb dL_law_39 (by decide) (by decide) (off := 836) (by decide) (by decide) (law_c10 hL ht hc hN hI hP hD hS hl)
        · exact lv_tableIn (tgt := 888) hx hb dL_law_39 (by decide) (by decide) (off := 849) (by decide) (by decide) (law_c11 hL ht hc hN hI hP hD hS hl)
        · exact lv_tableIn (tgt := 944) hx hb dL_law_39 (by decide) (by decide) (off := 905) (by decide) (by decide) (law_c12 hL ht hc hN hI hP hD hS hl)
        · exact lv_tableIn (tgt := 1000) hx hb dL_law_39 (by decide) (by decide) (off := 961) (by decide) (by decide) (law_c13 hL ht hc hN hI hP hD hS hl)
        · exact lv_tableIn (tgt := 1056) hx hb dL_law_39 (by decide) (by decide) (off := 1017) (by decide) (by decide) (law_c14 hL ht hc hN hI hP hD hS hl)
        · exact lv_tableIn (tgt := 1112) hx hb dL_law_39 (by decide) (by decide) (off := 1073) (by decide) (by decide) (law_c15 hL ht hc hN hI hP hD hS hl)
        · exact lv_tableIn (tgt := 1168) hx hb dL_law_39 (by decide) (by decide) (off := 1129) (by decide) (by decide) (law_c16 hL ht hc hN hI hP hD hS hl)
        · exact lv_tableIn (tgt := 1181) hx hb dL_law_39 (by decide) (by decide) (off := 1142) (by decide) (by decide) (law_c17 hL ht hc hN hI hP hD hS hl)
        · exact lv_tableIn (tgt := 1244) hx hb dL_law_39 (by decide) (by decide) (off := 1205) (by decide) (by decide) (law_c18 hL ht hc hN hI hP hD hS hl)
        · exact lv_tableIn (tgt := 1258) hx hb dL_law_39 (by decide) (by decide) (off := 1219) (by decide) (by decide) (law_c19 hL ht hc hN hI hP hD hS hl)
        · exact lv_tableIn (tgt := 1272) hx hb dL_law_39 (by decide) (by decide) (off := 1233) (by decide) (by decide) (law_c20 hL ht hc hN hI hP hD hS hl)
        · exact lv_tableIn (tgt := 1352) hx hb dL_law_39 (by decide) (by decide) (off := 1313) (by decide) (by decide) (law_c21 hL ht hc hN hI hP hD hS hl)
        · exact lv_tableIn (tgt := 1408) hx hb dL_law_39 (by decide) (by decide) (off := 1369) (by decide) (by decide) (law_c22 hL ht hc hN hI hP hD hS hl)
        · exact lv_tableIn (tgt := 1476) hx hb dL_law_39 (by decide) (by decide) (off := 1437) (by decide) (by decide) (law_c23 hL ht hc hN hI hP hD hS hl)
        · exact lv_tableIn (tgt := 1520) hx hb dL_law_39 (by decide) (by decide) (off := 1481) (by decide) (by decide) (law_c24 hL ht hc hN hI hP hD hS hl)
        · exact lv_tableIn (tgt := 1576) hx hb dL_law_39 (by decide) (by decide) (off := 1537) (by decide) (by decide) (law_c25 hL ht hc hN hI hP hD hS hl)
        · exact lv_tableIn (tgt := 1589) hx hb dL_law_39 (by decide) (by decide) (off := 1550) (by decide) (by decide) (law_c26 hL ht hc hN hI hP hD hS hl)
        · exact lv_tableIn (tgt := 1602) hx hb dL_law_39 (by decide) (by decide) (off := 1563) (by decide) (by decide) (law_c27 hL ht hc hN hI hP hD hS hl)
        · exact lv_tableIn (tgt := 1615) hx hb dL_law_39 (by decide) (by decide) (off := 1576) (by decide) (by decide) (law_c28 hL ht hc hN hI hP hD hS hl)
        · exact lv_tableIn (tgt := 1699) hx hb dL_law_39 (by decide) (by decide) (off := 1660) (by decide) (by decide) (law_c29 hL ht hc hN hI hP hD hS hl)
        · exact lv_tableIn (tgt := 1783) hx hb dL_law_39 (by decide) (by decide) (off := 1744) (by decide) (by decide) (law_c30 hL ht hc hN hI hP hD hS hl)
        · exact lv_tableIn (tgt := 1867) hx hb dL_law_39 (by decide) (by decide) (off := 1828) (by decide) (by decide) (law_c31 hL ht hc hN hI hP hD hS hl)
        · exact lv_tableIn (tgt := 1880) hx hb dL_law_39 (by decide) (by decide) (off := 1841) (by decide) (by decide) (law_c32 hL ht hc hN hI hP hD hS hl)
        · exact lv_tableIn (tgt := 1936) hx hb dL_law_39 (by decide) (by decide) (off := 1897) (by decide) (by decide) (law_c33 hL ht hc hN hI hP hD hS hl)
        · exact lv_tableIn (tgt := 1979) hx hb dL_law_39 (by decide) (by decide) (off := 1940) (by decide) (by decide) (law_c34 hL ht hc hN hI hP hD hS hl)
        · exact lv_tableIn (tgt := 2020) hx hb dL_law_39 (by decide) (by decide) (off := 1981) (by decide) (by decide) (law_c35 hL ht hc hN hI hP hD hS hl)
      · refine lv_tableOut (tgt := 2033) hx hb dL_law_39 hv (by decide) ?_
        exact W.widen (k := (100 + 60 * t) + 60) (n := (1000 + 4000 * t) + 4000) (by omega) (by omega) (hN C M o H locs ls hI hP hD hS hl)

set_option maxHeartbeats 4000000 in
set_option maxRecDepth 100000 in
theorem whole_start {p : Program} {e : Env} {s : State} {m : MethodId} {below : List Frame} {meth : Method} {c : Code} (l : Launch) (hflags : l.flags = flags0) {b L : Nat} {xs : Nat → Int32} (hL : L ≤ 2048) (C0 : lw_At p s m meth c b L xs) : W p l e room_1 s m #[Value.ref b] below meth c s.heap [] 0 0 (lw_Z below #[Value.ref b] s) (entryFrame m ([Value.ref b] : List Value).toArray 9) := by
  obtain ⟨hx, hb, hr, hml, hown, ht0, hX, hbl, hlocks, hgv⟩ := id C0
  have hts : ∀ w ∈ wsL_law, w.before #[Value.ref b] s = true := fun w h => ht0 w (wsL_law_in w h)
  have hg : ∀ w ∈ lw_nar, w.before #[Value.ref b] s = true := flat_of_before _ hgv
  obtain ⟨G, hK⟩ := law_CK ht0
  have hE := law_XE ht0 hg
  have hZ := law_ZS ht0 hg
  have hl0 : l.stackTraces = false := by unfold Launch.stackTraces; rw [hflags]; decide
  have hA : ∀ q : Nat, s.heap.size ≤ q → LA s q := lw_hA
  have hS : va_S (LA s) s.heap s.heap [] := va_S.rf
  have hP : va_P G.1 vwCl [] s.heap := fun k q h => by simp at h
  have hD : va_D (LA s) [] := ⟨fun i j p q h => by simp at h, fun k q h => by simp at h⟩
  have hl := lv_entry ([.ref b]) (n := 9) (Nat.le_of_ble_eq_true rfl)
  rw [lg_entry_eq]
  generalize (lg_sl ([.ref b]) ++ List.replicate (9 - (lg_sl ([.ref b])).length) Slot.unset).toArray = ls at hl ⊢
  have hl : lv_has ls 9 [(0, .ref b)] := hl
  refine va_new (D := G.1) (ci := 7) (fs := [.null, .null, .null, .null, .null, .int 0, .int 0]) (C := RX6) (T := TX6) (N := 7) hx hb hts inlX6 tyX6 tyX6_ok hown (w_mem hts 0 rfl) (w_mem hts 1 rfl) (w_mem hts 2 rfl) hK.1 hP hD hS hA rfl (fun j hj => by rcases (show j = 0 ∨ j = 1 ∨ j = 2 ∨ j = 3 ∨ j = 4 ∨ j = 5 ∨ j = 6 by omega) with rfl | rfl | rfl | rfl | rfl | rfl | rfl <;> rfl) (Nat.le_of_ble_eq_true rfl) (Nat.le_of_ble_eq_true rfl) dL_law_0 (fun qx H hP hD hS => ?_)
  have hP : va_P G.1 vwCl [(qx, .inr (7, [.null, .null, .null, .null, .null, .int 0, .int 0]))] H := hP
  have hD : va_D (LA s) [(qx, .inr (7, [.null, .null, .null, .null, .null, .int 0, .int 0]))] := hD
  refine lv_dup hx hb dL_law_3 rfl ?_
  refine j_v (Wd := fun u : Nat → Nat => CW G u Jvm.Pilot.CTreeConfiguratorLaw_law_r8663_f5b3e4.C0) (wc := [(qx, .inr (7, [.null, .null, .null, .null, .null, .int 0, .int 0]))]) (wr := []) (va_runI (As := []) (rest := [.ref qx]) ⟨hx, hb, hml, hown, hts⟩ (kX6_init l G qx _) (cwI 0 hts gL_law_X6_init rfl rfl rfl (w_mem hts 2 rfl) (w_mem hts 7 rfl) (w_mem hts 8 rfl) rfl (by decide +kernel) ⟨Nat.le_of_ble_eq_true rfl, Nat.le_of_ble_eq_true rfl⟩) (wrS hP hD hK) rfl rfl hl.1 rfl (lv_room (Nat.le_of_ble_eq_true rfl)) dL_law_4 ⟨Nat.le_of_ble_eq_true rfl, Nat.le_of_ble_eq_true rfl⟩) hP hD hS hA [0] [] rfl rfl (by decide) (by decide) (fun u H locs hu hP hD hS => ?_)
  refine lv_astore_n (lv' := [(1, .ref qx), (0, .ref b)]) hx hb dL_law_7 rfl hl (by decide) rfl (fun ls hl => ?_)
  have hP : va_P G.1 vwCl (CW G u Jvm.Pilot.CTreeConfiguratorLaw_law_r8663_f5b3e4.C0) H := hP
  have hD : va_D (LA s) (CW G u Jvm.Pilot.CTreeConfiguratorLaw_law_r8663_f5b3e4.C0) := hD
  refine va_new (D := G.1) (ci := 8) (fs := [.null, .null, .null, .null, .null, .null, .null, .null, .null, .null, .null, .null, .null, .null, .null, .null, .int 0, .int 0, .int 0, .int 0, .int 0, .int 0, .int 0, .int 0]) (C := RX7) (T := TX7) (N := 24) hx hb hts inlX7 tyX7 tyX7_ok hown (w_mem hts 3 rfl) (w_mem hts 4 rfl) (w_mem hts 5 rfl) hK.1 hP hD hS hA rfl (fun j hj => by rcases (show j = 0 ∨ j = 1 ∨ j = 2 ∨ j = 3 ∨ j = 4 ∨ j = 5 ∨ j = 6 ∨ j = 7 ∨ j = 8 ∨ j = 9 ∨ j = 10 ∨ j = 11 ∨ j = 12 ∨ j = 13 ∨ j = 14 ∨ j = 15 ∨ j = 16 ∨ j = 17 ∨ j = 18 ∨ j = 19 ∨ j = 20 ∨ j = 21 ∨ j = 22 ∨ j = 23 by omega) with rfl | rfl | rfl | rfl | rfl | rfl | rfl | rfl | rfl | rfl | rfl | rfl | rfl | rfl | rfl | rfl | rfl | rfl | rfl | rfl | rfl | rfl | rfl | rfl <;> rfl) (Nat.le_of_ble_eq_true rfl) (Nat.le_of_ble_eq_true rfl) dL_law_8 (fun qn H hP hD hS => ?_)
  have hP : va_P G.1 vwCl (CW G u Jvm.Pilot.CTreeConfiguratorLaw_law_r8663_f5b3e4.C0 ++ [(qn, .inr (8, [.null, .null, .null, .null, .null, .null, .null, .null, .null, .null, .null, .null, .null, .null, .null, .null, .int 0, .int 0, .int 0, .int 0, .int 0, .int 0, .int 0, .int 0]))]) H := hP
  have hD : va_D (LA s) (CW G u Jvm.Pilot.CTreeConfiguratorLaw_law_r8663_f5b3e4.C0 ++ [(qn, .inr (8, [.null, .null, .null, .null, .null, .null, .null, .null, .null, .null, .null, .null, .null, .null, .null, .null, .int 0, .int 0, .int 0, .int 0, .int 0, .int 0, .int 0, .int 0]))]) := hD
  refine lv_dup hx hb dL_law_11 rfl ?_
  refine j_v (Wd := fun um : Nat → Nat => MW G (fun k => match k with | 0 => qn | k + 1 => um k) M0) (wc := [(qn, .inr (8, [.null, .null, .null, .null, .null, .null, .null, .null, .null, .null, .null, .null, .null, .null, .null, .null, .int 0, .int 0, .int 0, .int 0, .int 0, .int 0, .int 0, .int 0]))]) (wr := CW G u Jvm.Pilot.CTreeConfiguratorLaw_law_r8663_f5b3e4.C0) (va_runI (As := []) (rest := [.ref qn]) ⟨hx, hb, hml, hown, hts⟩ (kX7_init l G qn _) (cwI 0 hts gL_law_X7_init rfl rfl rfl (w_mem hts 5 rfl) (w_mem hts 65 rfl) (w_mem hts 66 rfl) rfl (by decide +kernel) ⟨Nat.le_of_ble_eq_true rfl, Nat.le_of_ble_eq_true rfl⟩) (wrS (hP.sub (ws' := [(qn, .inr (8, [.null, .null, .null, .null, .null, .null, .null, .null, .null, .null, .null, .null, .null, .null, .null, .null, .int 0, .int 0, .int 0, .int 0, .int 0, .int 0, .int 0, .int 0]))]) [20] rfl) (hD.sub (ws' := [(qn, .inr (8, [.null, .null, .null, .null, .null, .null, .null, .null, .null, .null, .null, .null, .null, .null, .null, .null, .int 0, .int 0, .int 0, .int 0, .int 0, .int 0, .int 0, .int 0]))]) [20] (by decide) rfl) hK) rfl rfl hl.1 rfl (lv_room (Nat.le_of_ble_eq_true rfl)) dL_law_12 ⟨Nat.le_of_ble_eq_true rfl, Nat.le_of_ble_eq_true rfl⟩) hP hD hS hA [20] [0, 1, 2, 3, 4, 5, 6, 7, 8, 9, 10, 11, 12, 13, 14, 15, 16, 17, 18, 19] rfl rfl (by decide) (by decide) (fun um H locs _ hP hD hS => ?_)
  refine lv_astore_n (lv' := [(2, .ref qn), (1, .ref qx), (0, .ref b)]) hx hb dL_law_15 rfl hl (by decide) rfl (fun ls hl => ?_)
  refine lv_iconst (v := 1) hx hb dL_law_16 (by decide) ?_
  refine va_newa (D := G.1) (atype := .long) hx hb (w_mem hts 6 rfl) rfl hK.1 hP hD hS hA (N' := 1) (a0 := (1, .inr (.inl (fun _ => 0)))) (fun _ => rfl) (by decide) (by decide) (Nat.le_of_ble_eq_true rfl) (Nat.le_of_ble_eq_true rfl) (Nat.le_of_ble_eq_true rfl) dL_law_17 (fun qo cA H hK1 hP hD hS => ?_)
  have e9 := tyJ hK1
  subst e9
  clear hK1
  refine lv_astore_n (lv' := [(3, .ref qo), (2, .ref qn), (1, .ref qx), (0, .ref b)]) hx hb dL_law_19 rfl hl (by decide) rfl (fun ls hl => ?_)
  refine lv_iconst (v := 0) hx hb dL_law_20 (by decide) ?_
  refine lv_istore (lv' := [(4, .int 0), (3, .ref qo), (2, .ref qn), (1, .ref qx), (0, .ref b)]) hx hb dL_law_21 hl (by decide) rfl (fun ls hl => ?_)
  have hP : va_P G.1 vwCl (LW G (fun k => match k with | 0 => qn | k + 1 => um k) u qo M0 Jvm.Pilot.CTreeConfiguratorLaw_law_r8663_f5b3e4.C0 (fun _ => 0)) H := hP.sub (ws' := LW G (fun k => match k with | 0 => qn | k + 1 => um k) u qo M0 Jvm.Pilot.CTreeConfiguratorLaw_law_r8663_f5b3e4.C0 (fun _ => 0)) [20, 21, 22, 23, 24, 25, 26, 27, 28, 29, 30, 31, 32, 33, 34, 35, 36, 0, 1, 2, 3, 4, 5, 6, 7, 8, 9, 10, 11, 12, 13, 14, 15, 16, 17, 18, 19, 37] rfl
  have hD : va_D (LA s) (LW G (fun k => match k with | 0 => qn | k + 1 => um k) u qo M0 Jvm.Pilot.CTreeConfiguratorLaw_law_r8663_f5b3e4.C0 (fun _ => 0)) := hD.sub (ws' := LW G (fun k => match k with | 0 => qn | k + 1 => um k) u qo M0 Jvm.Pilot.CTreeConfiguratorLaw_law_r8663_f5b3e4.C0 (fun _ => 0)) [20, 21, 22, 23, 24, 25, 26, 27, 28, 29, 30, 31, 32, 33, 34, 35, 36, 0, 1, 2, 3, 4, 5, 6, 7, 8, 9, 10, 11, 12, 13, 14, 15, 16, 17, 18, 19, 37] (by decide) rfl
  refine W.widen (k := 100 + 60 * 0) (n := 1000 + 4000 * 0) (by decide) (by decide) ?_
  have hu0 : u 0 = qx := hu
  rw [← hu0] at hl
  exact law_loop (qm := (fun k => match k with | 0 => qn | k + 1 => um k)) (q := u) (qo := qo) (xs := xs) (L := L) ⟨⟨hx, hb, hr, hts, hown, hml, hlocks⟩, hl0, hK, hE, hZ, hX, hbl, hL⟩ 512 0 (by omega) (by decide) _ _ _ _ _ _ inv0.inv hP hD hS hl

