def rmL_reasonRule : Room := { frames := 8, cells := 1, slots := 6, locals := 160 }
set_option maxHeartbeats 4000000 in
set_option maxRecDepth 100000 in
theorem kL_reasonRule (l : Launch) (hl0 : l.stackTraces = false) (G : GT) (q : Nat → Nat) (qo : Nat) (C : St) (o : Nat → Int64) (sz : Nat) (x1 : Int32) (out : Int32 × (St × (Nat → Int64))) (h : pL_reasonRule C o x1 = some out) : Met l yL_reasonRule wsL_reasonRule rmL_reasonRule (va_Pc [.ref (q 0), .int x1, .ref qo] (xP G (XW G q qo (C, o)) sz)) (va_Qi (fun r u => (r, u) = out) (fun u t => va_P G.1 vwCl (XW G q qo u) t.heap) (va_A (XW G q qo (C, o)) sz)) 1 6 (va_A (XW G q qo (C, o)) sz) := by
  refine va_MetW (cc := cL_reasonRule) (maxL := 4) (ret := (some .int)) (by decide) rfl ?_
  intro p e s m args below meth c s₁ B hml hv
  obtain ⟨rfl, ⟨hsz, hP, hK, hD0⟩, hE⟩ := hv
  have htab := vx_table (x := yL_reasonRule) B (atoms_spec (ws := wsL_reasonRule) B.pre _ List.mem_cons_self)
  have bx := bx_of B hml
  subst hsz
  have hD := hD0.self (sz := s.heap.size)
  generalize hAe : va_A (XW G q qo (C, o)) s.heap.size = A at hD hE ⊢
  have hA : ∀ q : Nat, s.heap.size ≤ q → A q := fun q h => by rw [← hAe]; exact Or.inr h
  have hS : va_S A s.heap s.heap [] := va_S.rf
  have hP : va_P G.1 vwCl ([] ++ (CW G q C ++ OW G qo o)) s.heap := hP
  have hD : va_D A ([] ++ (CW G q C ++ OW G qo o)) := hD
  obtain ⟨hx, hb, hr, hts, hown, hml, hlocks⟩ := id bx
  have hl := lv_entry ([.ref (q 0), .int x1, .ref qo]) (n := 4) (Nat.le_of_ble_eq_true rfl)
  rw [lg_entry_eq]
  generalize (lg_sl ([.ref (q 0), .int x1, .ref qo]) ++ List.replicate (4 - (lg_sl ([.ref (q 0), .int x1, .ref qo])).length) Slot.unset).toArray = ls at hl ⊢
  have hl : lv_has ls 4 [(0, .ref (q 0)), (1, .int x1), (2, .ref qo)] := hl
  unfold pL_reasonRule at h
  rcases hc : pX6_reasonRule C x1 with _ | (⟨ek, eC⟩ | r)
  · rw [hc] at h; cases h
  · rw [hc] at h
    by_cases h0 : ek = 1
    · subst h0
      have h : some ((1 : Int32), (eC, o)) = some out := h
      refine lv_aload_n hx hb dL_reasonRule_0 rfl (lv_at hl 2 rfl) ?_
      refine lv_iconst (v := 0) hx hb dL_reasonRule_1 (by decide) ?_
      refine lv_aload_n hx hb dL_reasonRule_2 rfl (lv_at hl 0 rfl) ?_
      refine lv_iload_n hx hb dL_reasonRule_3 rfl (lv_at hl 1 rfl) ?_
      refine x_call (Wd := CW G q) (e' := (1, eC)) [] (OW G qo o) (vx_runV (As := [.int x1]) (rest := [.int 0, .ref qo]) ⟨hx, hb, hml, hown, hts⟩ (xX6_reasonRule l hl0 G q C _ x1 (1, eC) hc) (cwV 1 hts gL_reasonRule_X6_reasonRule rfl rfl rfl (by decide +kernel) ⟨Nat.le_of_ble_eq_true rfl, Nat.le_of_ble_eq_true rfl⟩) (xV (fr_mid [] (OW G qo o) hP) (fr_midD [] (OW G qo o) hD) hS hK hA hE 7 0 rfl rfl) rfl rfl hl.1 rfl (lv_room (Nat.le_of_ble_eq_true rfl)) dL_reasonRule_4 ⟨Nat.le_of_ble_eq_true rfl, Nat.le_of_ble_eq_true rfl⟩) hP hD hS hA (fun _ => rfl) (fun ce q9 H locs hP hD hS hce hcv hcl => ?_)
      refine vx_catch hown [] (⟨0, 9, 12, 13⟩ : ExceptionTableEntry) [(⟨0, 9, 15, 42⟩ : ExceptionTableEntry)] (htab.trans rfl) (fun _ hz => absurd hz List.not_mem_nil) (by decide) (by decide) (w_mem hts 1 rfl) (hK.2.at 60 rfl) hce hcv hcl ?_
      refine lv_astore_n (lv' := [(3, .ref q9), (0, .ref (q 0)), (1, .int x1), (2, .ref qo)]) hx hb dL_reasonRule_12 rfl hl (by decide) rfl (fun ls hl => ?_)
      refine lv_iconst (v := 1) hx hb dL_reasonRule_13 (by decide) ?_
      exact W.iret (v := 1) hx hb hr (fun t ht _ => ⟨⟨1, (eC, o), rfl, Option.some.inj h, by show va_P G.1 vwCl (XW G q qo (eC, o)) t.heap; rw [ht]; exact hP⟩, hS.F ht⟩) hS.2.2 dL_reasonRule_14 hlocks
    by_cases h1 : ek = 5
    · subst h1
      have h : some ((2 : Int32), (eC, o)) = some out := h
      refine lv_aload_n hx hb dL_reasonRule_0 rfl (lv_at hl 2 rfl) ?_
      refine lv_iconst (v := 0) hx hb dL_reasonRule_1 (by decide) ?_
      refine lv_aload_n hx hb dL_reasonRule_2 rfl (lv_at hl 0 rfl) ?_
      refine lv_iload_n hx hb dL_reasonRule_3 rfl (lv_at hl 1 rfl) ?_
      refine x_call (Wd := CW G q) (e' := (5, eC)) [] (OW G qo o) (vx_runV (As := [.int x1]) (rest := [.int 0, .ref qo]) ⟨hx, hb, hml, hown, hts⟩ (xX6_reasonRule l hl0 G q C _ x1 (5, eC) hc) (cwV 1 hts gL_reasonRule_X6_reasonRule rfl rfl rfl (by decide +kernel) ⟨Nat.le_of_ble_eq_true rfl, Nat.le_of_ble_eq_true rfl⟩) (xV (fr_mid [] (OW G qo o) hP) (fr_midD [] (OW G qo o) hD) hS hK hA hE 7 0 rfl rfl) rfl rfl hl.1 rfl (lv_room (Nat.le_of_ble_eq_true rfl)) dL_reasonRule_4 ⟨Nat.le_of_ble_eq_true rfl, Nat.le_of_ble_eq_true rfl⟩) hP hD hS hA (fun _ => rfl) (fun ce q9 H locs hP hD hS hce hcv hcl => ?_)
      refine vx_catch hown [(⟨0, 9, 12, 13⟩ : ExceptionTableEntry)] (⟨0, 9, 15, 42⟩ : ExceptionTableEntry) [] (htab.trans rfl) (List.forall_mem_cons.mpr ⟨Or.inr ⟨by decide, "java/lang/IndexOutOfBoundsException", (w_mem hts 1 rfl), hE.2.2.2 5 1 ⟨by decide, by decide⟩ ⟨by decide, by decide⟩ (by decide)⟩, fun _ hz => absurd hz List.not_mem_nil⟩) (by decide) (by decide) (w_mem hK.2.all 69 rfl) (hK.2.at 64 rfl) hce hcv hcl ?_
      refine lv_astore_n (lv' := [(3, .ref q9), (0, .ref (q 0)), (1, .int x1), (2, .ref qo)]) hx hb dL_reasonRule_15 rfl hl (by decide) rfl (fun ls hl => ?_)
      refine lv_iconst (v := 2) hx hb dL_reasonRule_16 (by decide) ?_
      exact W.iret (v := 2) hx hb hr (fun t ht _ => ⟨⟨2, (eC, o), rfl, Option.some.inj h, by show va_P G.1 vwCl (XW G q qo (eC, o)) t.heap; rw [ht]; exact hP⟩, hS.F ht⟩) hS.2.2 dL_reasonRule_17 hlocks
    · exact absurd h (by simp [lresW, cdL_reasonRule, h0, h1])
  · rw [hc] at h
    refine lv_aload_n hx hb dL_reasonRule_0 rfl (lv_at hl 2 rfl) ?_
    refine lv_iconst (v := 0) hx hb dL_reasonRule_1 (by decide) ?_
    refine lv_aload_n hx hb dL_reasonRule_2 rfl (lv_at hl 0 rfl) ?_
    refine lv_iload_n hx hb dL_reasonRule_3 rfl (lv_at hl 1 rfl) ?_
    refine wf_i (Wd := CW G q) [] (OW G qo o) (va_runV (As := [.int x1]) (rest := [.int 0, .ref qo]) ⟨hx, hb, hml, hown, hts⟩ (kX6_reasonRule l G q C _ x1 r hc) (cwV 1 hts gL_reasonRule_X6_reasonRule rfl rfl rfl (by decide +kernel) ⟨Nat.le_of_ble_eq_true rfl, Nat.le_of_ble_eq_true rfl⟩) (wrV (fr_mid [] (OW G qo o) hP) (fr_midD [] (OW G qo o) hD) hK 7 0 rfl rfl) rfl rfl hl.1 rfl (lv_room (Nat.le_of_ble_eq_true rfl)) dL_reasonRule_4 ⟨Nat.zero_le _, Nat.zero_le _⟩) hP hD hS hA (fun _ => rfl) (fun H locs hP hD hS => ?_)
    refine lv_i2l (v := Int32.toInt64 r.1) hx hb dL_reasonRule_7 rfl ?_
    refine va_last (D := G.1) hx hb hK.1 hP hD hS 20 3 rfl rfl (by unfold vp_in; decide) dL_reasonRule_8 (fun H locs hP hD hS => ?_)
    have hP : va_P G.1 vwCl (XW G q qo (r.2, vp_updL o 0 (Int32.toInt64 r.1))) H := hP
    refine lv_goto (tgt := 18) hx hb dL_reasonRule_9 (by decide) ?_
    refine lv_iconst (v := 0) hx hb dL_reasonRule_18 (by decide) ?_
    refine W.widen (k := 1) (n := 6) (Nat.le_of_ble_eq_true rfl) (Nat.le_of_ble_eq_true rfl) ?_
    have h : some ((0 : Int32), (r.2, vp_updL o 0 (Int32.toInt64 r.1))) = some out := h
    exact W.iret (v := 0) hx hb hr (fun t ht _ => ⟨⟨0, (r.2, vp_updL o 0 (Int32.toInt64 r.1)), rfl, Option.some.inj h, by show va_P G.1 vwCl (XW G q qo (r.2, vp_updL o 0 (Int32.toInt64 r.1))) t.heap; rw [ht]; exact hP⟩, hS.F ht⟩) hS.2.2 dL_reasonRule_19 hlocks

def rmL_isConfiguration : Room := { frames := 8, cells := 1, slots := 6, locals := 142 }
set_option maxHeartbeats 4000000 in
set_option maxRecDepth 100000 in
theorem kL_isConfiguration (l : Launch) (hl0 : l.stackTraces = false) (G : GT) (q : Nat → Nat) (qo : Nat) (C : St) (o : Nat → Int64) (sz : Nat) (x1 : Int32) (out : Int32 × (St × (Nat → Int64))) (h : pL_isConfiguration C o x1 = some out) : Met l yL_isConfiguration wsL_isConfiguration rmL_isConfiguration (va_Pc [.ref (q 0), .int x1, .ref qo] (xP G (XW G q qo (C, o)) sz)) (va_Qi (fun r u => (r, u) = out) (fun u t => va_P G.1 vwCl (XW G q qo u) t.heap) (va_A (XW G q qo (C, o)) sz)) 1 6 (va_A (XW G q qo (C, o)) sz) := by
  refine va_MetW (cc := cL_isConfiguration) (maxL := 4) (ret := (some .int)) (by decide) rfl ?_
  intro p e s m args below meth c s₁ B hml hv
  obtain ⟨rfl, ⟨hsz, hP, hK, hD0⟩, hE⟩ := hv
  have htab := vx_table (x := yL_isConfiguration) B (atoms_spec (ws := wsL_isConfiguration) B.pre _ List.mem_cons_self)
  have bx := bx_of B hml
  subst hsz
  have hD := hD0.self (sz := s.heap.size)
  generalize hAe : va_A (XW G q qo (C, o)) s.heap.size = A at hD hE ⊢
  have hA : ∀ q : Nat, s.heap.size ≤ q → A q := fun q h => by rw [← hAe]; exact Or.inr h
  have hS : va_S A s.heap s.heap [] := va_S.rf
  have hP : va_P G.1 vwCl ([] ++ (CW G q C ++ OW G qo o)) s.heap := hP
  have hD : va_D A ([] ++ (CW G q C ++ OW G qo o)) := hD
  obtain ⟨hx, hb, hr, hts, hown, hml, hlocks⟩ := id bx
  have hl := lv_entry ([.ref (q 0), .int x1, .ref qo]) (n := 4) (Nat.le_of_ble_eq_true rfl)
  rw [lg_entry_eq]
  generalize (lg_sl ([.ref (q 0), .int x1, .ref qo]) ++ List.replicate (4 - (lg_sl ([.ref (q 0), .int x1, .ref qo])).length) Slot.unset).toArray = ls at hl ⊢
  have hl : lv_has ls 4 [(0, .ref (q 0)), (1, .int x1), (2, .ref qo)] := hl
  unfold pL_isConfiguration at h
  rcases hc : pX6_isConfiguration C x1 with _ | (ek | r)
  · rw [hc] at h; cases h
  · rw [hc] at h
    by_cases h0 : ek = 2
    · subst h0
      have h : some ((1 : Int32), (C, o)) = some out := h
      refine lv_aload_n hx hb dL_isConfiguration_0 rfl (lv_at hl 2 rfl) ?_
      refine lv_iconst (v := 0) hx hb dL_isConfiguration_1 (by decide) ?_
      refine lv_aload_n hx hb dL_isConfiguration_2 rfl (lv_at hl 0 rfl) ?_
      refine lv_iload_n hx hb dL_isConfiguration_3 rfl (lv_at hl 1 rfl) ?_
      refine x_call (Wd := CW G q) (e' := (2, C)) [] (OW G qo o) (vx_runV (As := [.int x1]) (rest := [.int 0, .ref qo]) ⟨hx, hb, hml, hown, hts⟩ (xX6_isConfiguration l hl0 G q C _ x1 2 hc) (cwV 1 hts gL_isConfiguration_X6_isConfiguration rfl rfl rfl (by decide +kernel) ⟨Nat.le_of_ble_eq_true rfl, Nat.le_of_ble_eq_true rfl⟩) (xV (fr_mid [] (OW G qo o) hP) (fr_midD [] (OW G qo o) hD) hS hK hA hE 7 0 rfl rfl) rfl rfl hl.1 rfl (lv_room (Nat.le_of_ble_eq_true rfl)) dL_isConfiguration_4 ⟨Nat.le_of_ble_eq_true rfl, Nat.le_of_ble_eq_true rfl⟩) hP hD hS hA (fun _ => rfl) (fun ce q9 H locs hP hD hS hce hcv hcl => ?_)
      refine vx_catch hown [] (⟨0, 16, 19, 15⟩ : ExceptionTableEntry) [] (htab.trans rfl) (fun _ hz => absurd hz List.not_mem_nil) (by decide) (by decide) (w_mem hts 1 rfl) (hK.2.at 61 rfl) hce hcv hcl ?_
      refine lv_astore_n (lv' := [(3, .ref q9), (0, .ref (q 0)), (1, .int x1), (2, .ref qo)]) hx hb dL_isConfiguration_19 rfl hl (by decide) rfl (fun ls hl => ?_)
      refine lv_iconst (v := 1) hx hb dL_isConfiguration_20 (by decide) ?_
      exact W.iret (v := 1) hx hb hr (fun t ht _ => ⟨⟨1, (C, o), rfl, Option.some.inj h, by show va_P G.1 vwCl (XW G q qo (C, o)) t.heap; rw [ht]; exact hP⟩, hS.F ht⟩) hS.2.2 dL_isConfiguration_21 hlocks
    · exact absurd h (by simp [lresR, cdL_isConfiguration, h0])
  · rw [hc] at h
    refine lv_aload_n hx hb dL_isConfiguration_0 rfl (lv_at hl 2 rfl) ?_
    refine lv_iconst (v := 0) hx hb dL_isConfiguration_1 (by decide) ?_
    refine lv_aload_n hx hb dL_isConfiguration_2 rfl (lv_at hl 0 rfl) ?_
    refine lv_iload_n hx hb dL_isConfiguration_3 rfl (lv_at hl 1 rfl) ?_
    refine ro_i (va_runV (As := [.int x1]) (rest := [.int 0, .ref qo]) ⟨hx, hb, hml, hown, hts⟩ (kX6_isConfiguration l G q C x1 r hc) (cwV 1 hts gL_isConfiguration_X6_isConfiguration rfl rfl rfl (by decide +kernel) ⟨Nat.le_of_ble_eq_true rfl, Nat.le_of_ble_eq_true rfl⟩) (roV (fr_mid [] (OW G qo o) hP) hK 7 0 rfl rfl) rfl rfl hl.1 rfl (lv_room (Nat.le_of_ble_eq_true rfl)) dL_isConfiguration_4 ⟨Nat.zero_le _, Nat.zero_le _⟩) ?_
    have h : some ((0 : Int32), (C, vp_updL o 0 (if r = 0 then (0 : Int64) else 1))) = some out := h
    refine lv_if_eq (tgt := 14) hx hb dL_isConfiguration_7 (by decide) (fun c0 => ?_) (fun c0 => ?_)
    · rw [if_pos c0] at h
      refine lv_lconst (v := 0) hx hb dL_isConfiguration_14 (by decide) ?_
      refine va_last (D := G.1) hx hb hK.1 hP hD hS 20 3 rfl rfl (by unfold vp_in; decide) dL_isConfiguration_15 (fun H locs hP hD hS => ?_)
      have hP : va_P G.1 vwCl (XW G q qo (C, vp_updL o 0 0)) H := hP
      refine lv_goto (tgt := 22) hx hb dL_isConfiguration_16 (by decide) ?_
      refine lv_iconst (v := 0) hx hb dL_isConfiguration_22 (by decide) ?_
      refine W.widen (k := 1) (n := 6) (Nat.le_of_ble_eq_true rfl) (Nat.le_of_ble_eq_true rfl) ?_
      have h : some ((0 : Int32), (C, vp_updL o 0 0)) = some out := h
      exact W.iret (v := 0) hx hb hr (fun t ht _ => ⟨⟨0, (C, vp_updL o 0 0), rfl, Option.some.inj h, by show va_P G.1 vwCl (XW G q qo (C, vp_updL o 0 0)) t.heap; rw [ht]; exact hP⟩, hS.F ht⟩) hS.2.2 dL_isConfiguration_23 hlocks
    · rw [if_neg c0] at h
      refine lv_lconst (v := 1) hx hb dL_isConfiguration_10 (by decide) ?_
      refine lv_goto (tgt := 15) hx hb dL_isConfiguration_11 (by decide) ?_
      refine va_last (D := G.1) hx hb hK.1 hP hD hS 20 3 rfl rfl (by unfold vp_in; decide) dL_isConfiguration_15 (fun H locs hP hD hS => ?_)
      have hP : va_P G.1 vwCl (XW G q qo (C, vp_updL o 0 1)) H := hP
      refine lv_goto (tgt := 22) hx hb dL_isConfiguration_16 (by decide) ?_
      refine lv_iconst (v := 0) hx hb dL_isConfiguration_22 (by decide) ?_
      refine W.widen (k := 1) (n := 6) (Nat.le_of_ble_eq_true rfl) (Nat.le_of_ble_eq_true rfl) ?_
      have h : some ((0 : Int32), (C, vp_updL o 0 1)) = some out := h
      exact W.iret (v := 0) hx hb hr (fun t ht _ => ⟨⟨0, (C, vp_updL o 0 1), rfl, Option.some.inj h, by show va_P G.1 vwCl (XW G q qo (C, vp_updL o 0 1)) t.heap; rw [ht]; exact hP⟩, hS.F ht⟩) hS.2.2 dL_isConfiguration_23 hlocks

def rmL_addBundle : Room := { frames := 8, cells := 1, slots := 6, locals := 146 }
set_option maxHeartbeats 4000000 in
set_option maxRecDepth 100000 in
theorem kL_addBundle (l : Launch) (hl0 : l.stackTraces = false) (G : GT) (q : Nat → Nat) (qo : Nat) (C : St) (o : Nat → Int64) (sz : Nat) (x1 : Int32) (x2 : Int32) (x3 : Int32) (out : Int32 × (St × (Nat → Int64))) (h : pL_addBundle C o x1 x2 x3 = some out) : Met l yL_addBundle wsL_addBundle rmL_addBundle (va_Pc [.ref (q 0), .int x1, .int x2, .int x3, .ref qo] (xP G (XW G q qo (C, o)) sz)) (va_Qi (fun r u => (r, u) = out) (fun u t => va_P G.1 vwCl (XW G q qo u) t.heap) (va_A (XW G q qo (C, o)) sz)) 1 6 (va_A (XW G q qo (C, o)) sz) := by
  refine va_MetW (cc := cL_addBundle) (maxL := 6) (ret := (some .int)) (by decide) rfl ?_
  intro p e s m args below meth c s₁ B hml hv
  obtain ⟨rfl, ⟨hsz, hP, hK, hD0⟩, hE⟩ := hv
  have htab := vx_table (x := yL_addBundle) B (atoms_spec (ws := wsL_addBundle) B.pre _ List.mem_cons_self)
  have bx := bx_of B hml
  subst hsz
  have hD := hD0.self (sz := s.heap.size)
  generalize hAe : va_A (XW G q qo (C, o)) s.heap.size = A at hD hE ⊢
  have hA : ∀ q : Nat, s.heap.size ≤ q → A q := fun q h => by rw [← hAe]; exact Or.inr h
  have hS : va_S A s.heap s.heap [] := va_S.rf
  have hP : va_P G.1 vwCl ([] ++ (CW G q C ++ OW G qo o)) s.heap := hP
  have hD : va_D A ([] ++ (CW G q C ++ OW G qo o)) := hD
  obtain ⟨hx, hb, hr, hts, hown, hml, hlocks⟩ := id bx
  have hl := lv_entry ([.ref (q 0), .int x1, .int x2, .int x3, .ref qo]) (n := 6) (Nat.le_of_ble_eq_true rfl)
  rw [lg_entry_eq]
  generalize (lg_sl ([.ref (q 0), .int x1, .int x2, .int x3, .ref qo]) ++ List.replicate (6 - (lg_sl ([.ref (q 0), .int x1, .int x2, .int x3, .ref qo])).length) Slot.unset).toArray = ls at hl ⊢
  have hl : lv_has ls 6 [(0, .ref (q 0)), (1, .int x1), (2, .int x2), (3, .int x3), (4, .ref qo)] := hl
  unfold pL_addBundle at h
  rcases hc : pX6_addBundle C x1 x2 x3 with _ | (⟨ek, eC⟩ | r)
  · rw [hc] at h; cases h
  · rw [hc] at h
    by_cases h0 : ek = 1
    · subst h0
      have h : some ((1 : Int32), (eC, o)) = some out := h
      refine lv_aload hx hb dL_addBundle_0 (lv_at hl 4 rfl) ?_
      refine lv_iconst (v := 0) hx hb dL_addBundle_2 (by decide) ?_
      refine lv_aload_n hx hb dL_addBundle_3 rfl (lv_at hl 0 rfl) ?_
      refine lv_iload_n hx hb dL_addBundle_4 rfl (lv_at hl 1 rfl) ?_
      refine lv_iload_n hx hb dL_addBundle_5 rfl (lv_at hl 2 rfl) ?_
      refine lv_iload_n hx hb dL_addBundle_6 rfl (lv_at hl 3 rfl) ?_
      refine x_call (Wd := CW G q) (e' := (1, eC)) [] (OW G qo o) (vx_runV (As := [.int x1, .int x2, .int x3]) (rest := [.int 0, .ref qo]) ⟨hx, hb, hml, hown, hts⟩ (xX6_addBundle l hl0 G q C _ x1 x2 x3 (1, eC) hc) (cwV 3 hts gL_addBundle_X6_addBundle rfl rfl rfl (by decide +kernel) ⟨Nat.le_of_ble_eq_true rfl, Nat.le_of_ble_eq_true rfl⟩) (xV (fr_mid [] (OW G qo o) hP) (fr_midD [] (OW G qo o) hD) hS hK hA hE 7 0 rfl rfl) rfl rfl hl.1 rfl (lv_room (Nat.le_of_ble_eq_true rfl)) dL_addBundle_7 ⟨Nat.le_of_ble_eq_true rfl, Nat.le_of_ble_eq_true rfl⟩) hP hD hS hA (fun _ => rfl) (fun ce q9 H locs hP hD hS hce hcv hcl => ?_)
      refine vx_catch hown [] (⟨0, 12, 15, 13⟩ : ExceptionTableEntry) [(⟨0, 12, 19, 15⟩ : ExceptionTableEntry), (⟨0, 12, 23, 17⟩ : ExceptionTableEntry)] (htab.trans rfl) (fun _ hz => absurd hz List.not_mem_nil) (by decide) (by decide) (w_mem hts 1 rfl) (hK.2.at 60 rfl) hce hcv hcl ?_
      refine lv_astore (lv' := [(5, .ref q9), (0, .ref (q 0)), (1, .int x1), (2, .int x2), (3, .int x3), (4, .ref qo)]) hx hb dL_addBundle_15 hl (by decide) rfl (fun ls hl => ?_)
      refine lv_iconst (v := 1) hx hb dL_addBundle_17 (by decide) ?_
      exact W.iret (v := 1) hx hb hr (fun t ht _ => ⟨⟨1, (eC, o), rfl, Option.some.inj h, by show va_P G.1 vwCl (XW G q qo (eC, o)) t.heap; rw [ht]; exact hP⟩, hS.F ht⟩) hS.2.2 dL_addBundle_18 hlocks
    by_cases h1 : ek = 2
    · subst h1
      have h : some ((2 : Int32), (eC, o)) = some out := h
      refine lv_aload hx hb dL_addBundle_0 (lv_at hl 4 rfl) ?_
      refine lv_iconst (v := 0) hx hb dL_addBundle_2 (by decide) ?_
      refine lv_aload_n hx hb dL_addBundle_3 rfl (lv_at hl 0 rfl) ?_
      refine lv_iload_n hx hb dL_addBundle_4 rfl (lv_at hl 1 rfl) ?_
      refine lv_iload_n hx hb dL_addBundle_5 rfl (lv_at hl 2 rfl) ?_
      refine lv_iload_n hx hb dL_addBundle_6 rfl (lv_at hl 3 rfl) ?_
      refine x_call (Wd := CW G q) (e' := (2, eC)) [] (OW G qo o) (vx_runV (As := [.int x1, .int x2, .int x3]) (rest := [.int 0, .ref qo]) ⟨hx, hb, hml, hown, hts⟩ (xX6_addBundle l hl0 G q C _ x1 x2 x3 (2, eC) hc) (cwV 3 hts gL_addBundle_X6_addBundle rfl rfl rfl (by decide +kernel) ⟨Nat.le_of_ble_eq_true rfl, Nat.le_of_ble_eq_true rfl⟩) (xV (fr_mid [] (OW G qo o) hP) (fr_midD [] (OW G qo o) hD) hS hK hA hE 7 0 rfl rfl) rfl rfl hl.1 rfl (lv_room (Nat.le_of_ble_eq_true rfl)) dL_addBundle_7 ⟨Nat.le_of_ble_eq_true rfl, Nat.le_of_ble_eq_true rfl⟩) hP hD hS hA (fun _ => rfl) (fun ce q9 H locs hP hD hS hce hcv hcl => ?_)
      refine vx_catch hown [(⟨0, 12, 15, 13⟩ : ExceptionTableEntry)] (⟨0, 12, 19, 15⟩ : ExceptionTableEntry) [(⟨0, 12, 23, 17⟩ : ExceptionTableEntry)] (htab.trans rfl) (List.forall_mem_cons.mpr ⟨Or.inr ⟨by decide, "java/lang/IndexOutOfBoundsException", (w_mem hts 1 rfl), hE.2.2.2 2 1 ⟨by decide, by decide⟩ ⟨by decide, by decide⟩ (by decide)⟩, fun _ hz => absurd hz List.not_mem_nil⟩) (by decide) (by decide) (w_mem hK.2.all 66 rfl) (hK.2.at 61 rfl) hce hcv hcl ?_
      refine lv_astore (lv' := [(5, .ref q9), (0, .ref (q 0)), (1, .int x1), (2, .int x2), (3, .int x3), (4, .ref qo)]) hx hb dL_addBundle_19 hl (by decide) rfl (fun ls hl => ?_)
      refine lv_iconst (v := 2) hx hb dL_addBundle_21 (by decide) ?_
      exact W.iret (v := 2) hx hb hr (fun t ht _ => ⟨⟨2, (eC, o), rfl, Option.some.inj h, by show va_P G.1 vwCl (XW G q qo (eC, o)) t.heap; rw [ht]; exact hP⟩, hS.F ht⟩) hS.2.2 dL_addBundle_22 hlocks
    by_cases h2 : ek = 3
    · subst h2
      have h : some ((3 : Int32), (eC, o)) = some out := h
      refine lv_aload hx hb dL_addBundle_0 (lv_at hl 4 rfl) ?_
      refine lv_iconst (v := 0) hx hb dL_addBundle_2 (by decide) ?_
      refine lv_aload_n hx hb dL_addBundle_3 rfl (lv_at hl 0 rfl) ?_
      refine lv_iload_n hx hb dL_addBundle_4 rfl (lv_at hl 1 rfl) ?_
      refine lv_iload_n hx hb dL_addBundle_5 rfl (lv_at hl 2 rfl) ?_
      refine lv_iload_n hx hb dL_addBundle_6 rfl (lv_at hl 3 rfl) ?_
      refine x_call (Wd := CW G q) (e' := (3, eC)) [] (OW G qo o) (vx_runV (As := [.int x1, .int x2, .int x3]) (rest := [.int 0, .ref qo]) ⟨hx, hb, hml, hown, hts⟩ (xX6_addBundle l hl0 G q C _ x1 x2 x3 (3, eC) hc) (cwV 3 hts gL_addBundle_X6_addBundle rfl rfl rfl (by decide +kernel) ⟨Nat.le_of_ble_eq_true rfl, Nat.le_of_ble_eq_true rfl⟩) (xV (fr_mid [] (OW G qo o) hP) (fr_midD [] (OW G qo o) hD) hS hK hA hE 7 0 rfl rfl) rfl rfl hl.1 rfl (lv_room (Nat.le_of_ble_eq_true rfl)) dL_addBundle_7 ⟨Nat.le_of_ble_eq_true rfl, Nat.le_of_ble_eq_true rfl⟩) hP hD hS hA (fun _ => rfl) (fun ce q9 H locs hP hD hS hce hcv hcl => ?_)
      refine vx_catch hown [(⟨0, 12, 15, 13⟩ : ExceptionTableEntry), (⟨0, 12, 19, 15⟩ : ExceptionTableEntry)] (⟨0, 12, 23, 17⟩ : ExceptionTableEntry) [] (htab.trans rfl) (List.forall_mem_cons.mpr ⟨Or.inr ⟨by decide, "java/lang/IndexOutOfBoundsException", (w_mem hts 1 rfl), hE.2.2.2 3 1 ⟨by decide, by decide⟩ ⟨by decide, by decide⟩ (by decide)⟩, List.forall_mem_cons.mpr ⟨Or.inr ⟨by decide, "java/lang/IllegalArgumentException", (w_mem hK.2.all 66 rfl), hE.2.2.2 3 2 ⟨by decide, by decide⟩ ⟨by decide, by decide⟩ (by decide)⟩, fun _ hz => absurd hz List.not_mem_nil⟩⟩) (by decide) (by decide) (w_mem hK.2.all 67 rfl) (hK.2.at 62 rfl) hce hcv hcl ?_
      refine lv_astore (lv' := [(5, .ref q9), (0, .ref (q 0)), (1, .int x1), (2, .int x2), (3, .int x3), (4, .ref qo)]) hx hb dL_addBundle_23 hl (by decide) rfl (fun ls hl => ?_)
      refine lv_iconst (v := 3) hx hb dL_addBundle_25 (by decide) ?_
      exact W.iret (v := 3) hx hb hr (fun t ht _ => ⟨⟨3, (eC, o), rfl, Option.some.inj h, by show va_P G.1 vwCl (XW G q qo (eC, o)) t.heap; rw [ht]; exact hP⟩, hS.F ht⟩) hS.2.2 dL_addBundle_26 hlocks
    · exact absurd h (by simp [lresW, cdL_addBundle, h0, h1, h2])
  · rw [hc] at h
    refine lv_aload hx hb dL_addBundle_0 (lv_at hl 4 rfl) ?_
    refine lv_iconst (v := 0) hx hb dL_addBundle_2 (by decide) ?_
    refine lv_aload_n hx hb dL_addBundle_3 rfl (lv_at hl 0 rfl) ?_
    refine lv_iload_n hx hb dL_addBundle_4 rfl (lv_at hl 1 rfl) ?_
    refine lv_iload_n hx hb dL_addBundle_5 rfl (lv_at hl 2 rfl) ?_
    refine lv_iload_n hx hb dL_addBundle_6 rfl (lv_at hl 3 rfl) ?_
    refine wf_i (Wd := CW G q) [] (OW G qo o) (va_runV (As := [.int x1, .int x2, .int x3]) (rest := [.int 0, .ref qo]) ⟨hx, hb, hml, hown, hts⟩ (kX6_addBundle l G q C _ x1 x2 x3 r hc) (cwV 3 hts gL_addBundle_X6_addBundle rfl rfl rfl (by decide +kernel) ⟨Nat.le_of_ble_eq_true rfl, Nat.le_of_ble_eq_true rfl⟩) (wrV (fr_mid [] (OW G qo o) hP) (fr_midD [] (OW G qo o) hD) hK 7 0 rfl rfl) rfl rfl hl.1 rfl (lv_room (Nat.le_of_ble_eq_true rfl)) dL_addBundle_7 ⟨Nat.zero_le _, Nat.zero_le _⟩) hP hD hS hA (fun _ => rfl) (fun H locs hP hD hS => ?_)
    refine lv_i2l (v := Int32.toInt64 r.1) hx hb dL_addBundle_10 rfl ?_
    refine va_last (D := G.1) hx hb hK.1 hP hD hS 20 3 rfl rfl (by unfold vp_in; decide) dL_addBundle_11 (fun H locs hP hD hS => ?_)
    have hP : va_P G.1 vwCl (XW G q qo (r.2, vp_updL o 0 (Int32.toInt64 r.1))) H := hP
    refine lv_goto (tgt := 27) hx hb dL_addBundle_12 (by decide) ?_
    refine lv_iconst (v := 0) hx hb dL_addBundle_27 (by decide) ?_
    refine W.widen (k := 1) (n := 6) (Nat.le_of_ble_eq_true rfl) (Nat.le_of_ble_eq_true rfl) ?_
    have h : some ((0 : Int32), (r.2, vp_updL o 0 (Int32.toInt64 r.1))) = some out := h
    exact W.iret (v := 0) hx hb hr (fun t ht _ => ⟨⟨0, (r.2, vp_updL o 0 (Int32.toInt64 r.1)), rfl, Option.some.inj h, by show va_P G.1 vwCl (XW G q qo (r.2, vp_updL o 0 (Int32.toInt64 r.1))) t.heap; rw [ht]; exact hP⟩, hS.F ht⟩) hS.2.2 dL_addBundle_28 hlocks

def rmL_addPercent : Room := { frames := 8, cells := 1, slots := 6, locals := 144 }
set_option maxHeartbeats 4000000 in
set_option maxRecDepth 100000 in
theorem kL_addPercent (l : Launch) (hl0 : l.stackTraces = false) (G : GT) (q : Nat → Nat) (qo : Nat) (C : St) (o : Nat → Int64) (sz : Nat) (x1 : Int32) (out : Int32 × (St × (Nat → Int64))) (h : pL_addPercent C o x1 = some out) : Met l yL_addPercent wsL_addPercent rmL_addPercent (va_Pc [.ref (q 0), .int x1, .ref qo] (xP G (XW G q qo (C, o)) sz)) (va_Qi (fun r u => (r, u) = out) (fun u t => va_P G.1 vwCl (XW G q qo u) t.heap) (va_A (XW G q qo (C, o)) sz)) 1 6 (va_A (XW G q qo (C, o)) sz) := by
  refine va_MetW (cc := cL_addPercent) (maxL := 4) (ret := (some .int)) (by decide) rfl ?_
  intro p e s m args below meth c s₁ B hml hv
  obtain ⟨rfl, ⟨hsz, hP, hK, hD0⟩, hE⟩ := hv
  have htab := vx_table (x := yL_addPercent) B (atoms_spec (ws := wsL_addPercent) B.pre _ List.mem_cons_self)
  have bx := bx_of B hml
  subst hsz
  have hD := hD0.self (sz := s.heap.size)
  generalize hAe : va_A (XW G q qo (C, o)) s.heap.size = A at hD hE ⊢
  have hA : ∀ q : Nat, s.heap.size ≤ q → A q := fun q h => by rw [← hAe]; exact Or.inr h
  have hS : va_S A s.heap s.heap [] := va_S.rf
  have hP : va_P G.1 vwCl ([] ++ (CW G q C ++ OW G qo o)) s.heap := hP
  have hD : va_D A ([] ++ (CW G q C ++ OW G qo o)) := hD
  obtain ⟨hx, hb, hr, hts, hown, hml, hlocks⟩ := id bx
  have hl := lv_entry ([.ref (q 0), .int x1, .ref qo]) (n := 4) (Nat.le_of_ble_eq_true rfl)
  rw [lg_entry_eq]
  generalize (lg_sl ([.ref (q 0), .int x1, .ref qo]) ++ List.replicate (4 - (lg_sl ([.ref (q 0), .int x1, .ref qo])).length) Slot.unset).toArray = ls at hl ⊢
  have hl : lv_has ls 4 [(0, .ref (q 0)), (1, .int x1), (2, .ref qo)] := hl
  unfold pL_addPercent at h
  rcases hc : pX6_addPercent C x1 with _ | (⟨ek, eC⟩ | r)
  · rw [hc] at h; cases h
  · rw [hc] at h
    by_cases h0 : ek = 2
    · subst h0
      have h : some ((1 : Int32), (eC, o)) = some out := h
      refine lv_aload_n hx hb dL_addPercent_0 rfl (lv_at hl 2 rfl) ?_
      refine lv_iconst (v := 0) hx hb dL_addPercent_1 (by decide) ?_
      refine lv_aload_n hx hb dL_addPercent_2 rfl (lv_at hl 0 rfl) ?_
      refine lv_iload_n hx hb dL_addPercent_3 rfl (lv_at hl 1 rfl) ?_
      refine x_call (Wd := CW G q) (e' := (2, eC)) [] (OW G qo o) (vx_runV (As := [.int x1]) (rest := [.int 0, .ref qo]) ⟨hx, hb, hml, hown, hts⟩ (xX6_addPercent l hl0 G q C _ x1 (2, eC) hc) (cwV 1 hts gL_addPercent_X6_addPercent rfl rfl rfl (by decide +kernel) ⟨Nat.le_of_ble_eq_true rfl, Nat.le_of_ble_eq_true rfl⟩) (xV (fr_mid [] (OW G qo o) hP) (fr_midD [] (OW G qo o) hD) hS hK hA hE 7 0 rfl rfl) rfl rfl hl.1 rfl (lv_room (Nat.le_of_ble_eq_true rfl)) dL_addPercent_4 ⟨Nat.le_of_ble_eq_true rfl, Nat.le_of_ble_eq_true rfl⟩) hP hD hS hA (fun _ => rfl) (fun ce q9 H locs hP hD hS hce hcv hcl => ?_)
      refine vx_catch hown [] (⟨0, 9, 12, 15⟩ : ExceptionTableEntry) [(⟨0, 9, 15, 17⟩ : ExceptionTableEntry)] (htab.trans rfl) (fun _ hz => absurd hz List.not_mem_nil) (by decide) (by decide) (w_mem hts 1 rfl) (hK.2.at 61 rfl) hce hcv hcl ?_
      refine lv_astore_n (lv' := [(3, .ref q9), (0, .ref (q 0)), (1, .int x1), (2, .ref qo)]) hx hb dL_addPercent_12 rfl hl (by decide) rfl (fun ls hl => ?_)
      refine lv_iconst (v := 1) hx hb dL_addPercent_13 (by decide) ?_
      exact W.iret (v := 1) hx hb hr (fun t ht _ => ⟨⟨1, (eC, o), rfl, Option.some.inj h, by show va_P G.1 vwCl (XW G q qo (eC, o)) t.heap; rw [ht]; exact hP⟩, hS.F ht⟩) hS.2.2 dL_addPercent_14 hlocks
    by_cases h1 : ek = 3
    · subst h1
      have h : some ((2 : Int32), (eC, o)) = some out := h
      refine lv_aload_n hx hb dL_addPercent_0 rfl (lv_at hl 2 rfl) ?_
      refine lv_iconst (v := 0) hx hb dL_addPercent_1 (by decide) ?_
      refine lv_aload_n hx hb dL_addPercent_2 rfl (lv_at hl 0 rfl) ?_
      refine lv_iload_n hx hb dL_addPercent_3 rfl (lv_at hl 1 rfl) ?_
      refine x_call (Wd := CW G q) (e' := (3, eC)) [] (OW G qo o) (vx_runV (As := [.int x1]) (rest := [.int 0, .ref qo]) ⟨hx, hb, hml, hown, hts⟩ (xX6_addPercent l hl0 G q C _ x1 (3, eC) hc) (cwV 1 hts gL_addPercent_X6_addPercent rfl rfl rfl (by decide +kernel) ⟨Nat.le_of_ble_eq_true rfl, Nat.le_of_ble_eq_true rfl⟩) (xV (fr_mid [] (OW G qo o) hP) (fr_midD [] (OW G qo o) hD) hS hK hA hE 7 0 rfl rfl) rfl rfl hl.1 rfl (lv_room (Nat.le_of_ble_eq_true rfl)) dL_addPercent_4 ⟨Nat.le_of_ble_eq_true rfl, Nat.le_of_ble_eq_true rfl⟩) hP hD hS hA (fun _ => rfl) (fun ce q9 H locs hP hD hS hce hcv hcl => ?_)
      refine vx_catch hown [(⟨0, 9, 12, 15⟩ : ExceptionTableEntry)] (⟨0, 9, 15, 17⟩ : ExceptionTableEntry) [] (htab.trans rfl) (List.forall_mem_cons.mpr ⟨Or.inr ⟨by decide, "java/lang/IllegalArgumentException", (w_mem hts 1 rfl), hE.2.2.2 3 2 ⟨by decide, by decide⟩ ⟨by decide, by decide⟩ (by decide)⟩, fun _ hz => absurd hz List.not_mem_nil⟩) (by decide) (by decide) (w_mem hK.2.all 67 rfl) (hK.2.at 62 rfl) hce hcv hcl ?_
      refine lv_astore_n (lv' := [(3, .ref q9), (0, .ref (q 0)), (1, .int x1), (2, .ref qo)]) hx hb dL_addPercent_15 rfl hl (by decide) rfl (fun ls hl => ?_)
      refine lv_iconst (v := 2) hx hb dL_addPercent_16 (by decide) ?_
      exact W.iret (v := 2) hx hb hr (fun t ht _ => ⟨⟨2, (eC, o), rfl, Option.some.inj h, by show va_P G.1 vwCl (XW G q qo (eC, o)) t.heap; rw [ht]; exact hP⟩, hS.F ht⟩) hS.2.2 dL_addPercent_17 hlocks
    · exact absurd h (by simp [lresW, cdL_addPercent, h0, h1])
  · rw [hc] at h
    refine lv_aload_n hx hb dL_addPercent_0 rfl (lv_at hl 2 rfl) ?_
    refine lv_iconst (v := 0) hx hb dL_addPercent_1 (by decide) ?_
    refine lv_aload_n hx hb dL_addPercent_2 rfl (lv_at hl 0 rfl) ?_
    refine lv_iload_n hx hb dL_addPercent_3 rfl (lv_at hl 1 rfl) ?_
    refine wf_i (Wd := CW G q) [] (OW G qo o) (va_runV (As := [.int x1]) (rest := [.int 0, .ref qo]) ⟨hx, hb, hml, hown, hts⟩ (kX6_addPercent l G q C _ x1 r hc) (cwV 1 hts gL_addPercent_X6_addPercent rfl rfl rfl (by decide +kernel) ⟨Nat.le_of_ble_eq_true rfl, Nat.le_of_ble_eq_true rfl⟩) (wrV (fr_mid [] (OW G qo o) hP) (fr_midD [] (OW G qo o) hD) hK 7 0 rfl rfl) rfl rfl hl.1 rfl (lv_room (Nat.le_of_ble_eq_true rfl)) dL_addPercent_4 ⟨Nat.zero_le _, Nat.zero_le _⟩) hP hD hS hA (fun _ => rfl) (fun H locs hP hD hS => ?_)
    refine lv_i2l (v := Int32.toInt64 r.1) hx hb dL_addPercent_7 rfl ?_
    refine va_last (D := G.1) hx hb hK.1 hP hD hS 20 3 rfl rfl (by unfold vp_in; decide) dL_addPercent_8 (fun H locs hP hD hS => ?_)
    have hP : va_P G.1 vwCl (XW G q qo (r.2, vp_updL o 0 (Int32.toInt64 r.1))) H := hP
    refine lv_goto (tgt := 18) hx hb dL_addPercent_9 (by decide) ?_
    refine lv_iconst (v := 0) hx hb dL_addPercent_18 (by decide) ?_
    refine W.widen (k := 1) (n := 6) (Nat.le_of_ble_eq_true rfl) (Nat.le_of_ble_eq_true rfl) ?_
    have h : some ((0 : Int32), (r.2, vp_updL o 0 (Int32.toInt64 r.1))) = some out := h
    exact W.iret (v := 0) hx hb hr (fun t ht _ => ⟨⟨0, (r.2, vp_updL o 0 (Int32.toInt64 r.1)), rfl, Option.some.inj h, by show va_P G.1 vwCl (XW G q qo (r.2, vp_updL o 0 (Int32.toInt64 r.1))) t.heap; rw [ht]; exact hP⟩, hS.F ht⟩) hS.2.2 dL_addPercent_19 hlocks

def rmL_addSurcharge : Room := { frames := 8, cells := 1, slots := 6, locals := 145 }
set_option maxHeartbeats 4000000 in
set_option maxRecDepth 100000 in
theorem kL_addSurcharge (l : Launch) (hl0 : l.stackTraces = false) (G : GT) (q : Nat → Nat) (qo : Nat) (C : St) (o : Nat → Int64) (sz : Nat) (x1 : Int32) (x2 : Int32) (out : Int32 × (St × (Nat → Int64))) (h : pL_addSurcharge C o x1 x2 = some out) : Met l yL_addSurcharge wsL_addSurcharge rmL_addSurcharge (va_Pc [.ref (q 0), .int x1, .int x2, .ref qo] (xP G (XW G q qo (C, o)) sz)) (va_Qi (fun r u => (r, u) = out) (fun u t => va_P G.1 vwCl (XW G q qo u) t.heap) (va_A (XW G q qo (C, o)) sz)) 1 6 (va_A (XW G q qo (C, o)) sz) := by
  refine va_MetW (cc := cL_addSurcharge) (maxL := 5) (ret := (some .int)) (by decide) rfl ?_
  intro p e s m args below meth c s₁ B hml hv
  obtain ⟨rfl, ⟨hsz, hP, hK, hD0⟩, hE⟩ := hv
  have htab := vx_table (x := yL_addSurcharge) B (atoms_spec (ws := wsL_addSurcharge) B.pre _ List.mem_cons_self)
  have bx := bx_of B hml
  subst hsz
  have hD := hD0.self (sz := s.heap.size)
  generalize hAe : va_A (XW G q qo (C, o)) s.heap.size = A at hD hE ⊢
  have hA : ∀ q : Nat, s.heap.size ≤ q → A q := fun q h => by rw [← hAe]; exact Or.inr h
  have hS : va_S A s.heap s.heap [] := va_S.rf
  have hP : va_P G.1 vwCl ([] ++ (CW G q C ++ OW G qo o)) s.heap := hP
  have hD : va_D A ([] ++ (CW G q C ++ OW G qo o)) := hD
  obtain ⟨hx, hb, hr, hts, hown, hml, hlocks⟩ := id bx
  have hl := lv_entry ([.ref (q 0), .int x1, .int x2, .ref qo]) (n := 5) (Nat.le_of_ble_eq_true rfl)
  rw [lg_entry_eq]
  generalize (lg_sl ([.ref (q 0), .int x1, .int x2, .ref qo]) ++ List.replicate (5 - (lg_sl ([.ref (q 0), .int x1, .int x2, .ref qo])).length) Slot.unset).toArray = ls at hl ⊢
  have hl : lv_has ls 5 [(0, .ref (q 0)), (1, .int x1), (2, .int x2), (3, .ref qo)] := hl
  unfold pL_addSurcharge at h
  rcases hc : pX6_addSurcharge C x1 x2 with _ | (⟨ek, eC⟩ | r)
  · rw [hc] at h; cases h
  · rw [hc] at h
    by_cases h0 : ek = 2
    · subst h0
      have h : some ((1 : Int32), (eC, o)) = some out := h
      refine lv_aload_n hx hb dL_addSurcharge_0 rfl (lv_at hl 3 rfl) ?_
      refine lv_iconst (v := 0) hx hb dL_addSurcharge_1 (by decide) ?_
      refine lv_aload_n hx hb dL_addSurcharge_2 rfl (lv_at hl 0 rfl) ?_
      refine lv_iload_n hx hb dL_addSurcharge_3 rfl (lv_at hl 1 rfl) ?_
      refine lv_iload_n hx hb dL_addSurcharge_4 rfl (lv_at hl 2 rfl) ?_
      refine x_call (Wd := CW G q) (e' := (2, eC)) [] (OW G qo o) (vx_runV (As := [.int x1, .int x2]) (rest := [.int 0, .ref qo]) ⟨hx, hb, hml, hown, hts⟩ (xX6_addSurcharge l hl0 G q C _ x1 x2 (2, eC) hc) (cwV 2 hts gL_addSurcharge_X6_addSurcharge rfl rfl rfl (by decide +kernel) ⟨Nat.le_of_ble_eq_true rfl, Nat.le_of_ble_eq_true rfl⟩) (xV (fr_mid [] (OW G qo o) hP) (fr_midD [] (OW G qo o) hD) hS hK hA hE 7 0 rfl rfl) rfl rfl hl.1 rfl (lv_room (Nat.le_of_ble_eq_true rfl)) dL_addSurcharge_5 ⟨Nat.le_of_ble_eq_true rfl, Nat.le_of_ble_eq_true rfl⟩) hP hD hS hA (fun _ => rfl) (fun ce q9 H locs hP hD hS hce hcv hcl => ?_)
      refine vx_catch hown [] (⟨0, 10, 13, 15⟩ : ExceptionTableEntry) [(⟨0, 10, 17, 17⟩ : ExceptionTableEntry)] (htab.trans rfl) (fun _ hz => absurd hz List.not_mem_nil) (by decide) (by decide) (w_mem hts 1 rfl) (hK.2.at 61 rfl) hce hcv hcl ?_
      refine lv_astore (lv' := [(4, .ref q9), (0, .ref (q 0)), (1, .int x1), (2, .int x2), (3, .ref qo)]) hx hb dL_addSurcharge_13 hl (by decide) rfl (fun ls hl => ?_)
      refine lv_iconst (v := 1) hx hb dL_addSurcharge_15 (by decide) ?_
      exact W.iret (v := 1) hx hb hr (fun t ht _ => ⟨⟨1, (eC, o), rfl, Option.some.inj h, by show va_P G.1 vwCl (XW G q qo (eC, o)) t.heap; rw [ht]; exact hP⟩, hS.F ht⟩) hS.2.2 dL_addSurcharge_16 hlocks
    by_cases h1 : ek = 3
    · subst h1
      have h : some ((2 : Int32), (eC, o)) = some out := h
      refine lv_aload_n hx hb dL_addSurcharge_0 rfl (lv_at hl 3 rfl) ?_
      refine lv_iconst (v := 0) hx hb dL_addSurcharge_1 (by decide) ?_
      refine lv_aload_n hx hb dL_addSurcharge_2 rfl (lv_at hl 0 rfl) ?_
      refine lv_iload_n hx hb dL_addSurcharge_3 rfl (lv_at hl 1 rfl) ?_
      refine lv_iload_n hx hb dL_addSurcharge_4 rfl (lv_at hl 2 rfl) ?_
      refine x_call (Wd := CW G q) (e' := (3, eC)) [] (OW G qo o) (vx_runV (As := [.int x1, .int x2]) (rest := [.int 0, .ref qo]) ⟨hx, hb, hml, hown, hts⟩ (xX6_addSurcharge l hl0 G q C _ x1 x2 (3, eC) hc) (cwV 2 hts gL_addSurcharge_X6_addSurcharge rfl rfl rfl (by decide +kernel) ⟨Nat.le_of_ble_eq_true rfl, Nat.le_of_ble_eq_true rfl⟩) (xV (fr_mid [] (OW G qo o) hP) (fr_midD [] (OW G qo o) hD) hS hK hA hE 7 0 rfl rfl) rfl rfl hl.1 rfl (lv_room (Nat.le_of_ble_eq_true rfl)) dL_addSurcharge_5 ⟨Nat.le_of_ble_eq_true rfl, Nat.le_of_ble_eq_true rfl⟩) hP hD hS hA (fun _ => rfl) (fun ce q9 H locs hP hD hS hce hcv hcl => ?_)
      refine vx_catch hown [(⟨0, 10, 13, 15⟩ : ExceptionTableEntry)] (⟨0, 10, 17, 17⟩ : ExceptionTableEntry) [] (htab.trans rfl) (List.forall_mem_cons.mpr ⟨Or.inr ⟨by decide, "java/lang/IllegalArgumentException", (w_mem hts 1 rfl), hE.2.2.2 3 2 ⟨by decide, by decide⟩ ⟨by decide, by decide⟩ (by decide)⟩, fun _ hz => absurd hz List.not_mem_nil⟩) (by decide) (by decide) (w_mem hK.2.all 67 rfl) (hK.2.at 62 rfl) hce hcv hcl ?_
      refine lv_astore (lv' := [(4, .ref q9), (0, .ref (q 0)), (1, .int x1), (2, .int x2), (3, .ref qo)]) hx hb dL_addSurcharge_17 hl (by decide) rfl (fun ls hl => ?_)
      refine lv_iconst (v := 2) hx hb dL_addSurcharge_19 (by decide) ?_
      exact W.iret (v := 2) hx hb hr (fun t ht _ => ⟨⟨2, (eC, o), rfl, Option.some.inj h, by show va_P G.1 vwCl (XW G q qo (eC, o)) t.heap; rw [ht]; exact hP⟩, hS.F ht⟩) hS.2.2 dL_addSurcharge_20 hlocks
    · exact absurd h (by simp [lresW, cdL_addSurcharge, h0, h1])
  · rw [hc] at h
    refine lv_aload_n hx hb dL_addSurcharge_0 rfl (lv_at hl 3 rfl) ?_
    refine lv_iconst (v := 0) hx hb dL_addSurcharge_1 (by decide) ?_
    refine lv_aload_n hx hb dL_addSurcharge_2 rfl (lv_at hl 0 rfl) ?_
    refine lv_iload_n hx hb dL_addSurcharge_3 rfl (lv_at hl 1 rfl) ?_
    refine lv_iload_n hx hb dL_addSurcharge_4 rfl (lv_at hl 2 rfl) ?_
    refine wf_i (Wd := CW G q) [] (OW G qo o) (va_runV (As := [.int x1, .int x2]) (rest := [.int 0, .ref qo]) ⟨hx, hb, hml, hown, hts⟩ (kX6_addSurcharge l G q C _ x1 x2 r hc) (cwV 2 hts gL_addSurcharge_X6_addSurcharge rfl rfl rfl (by decide +kernel) ⟨Nat.le_of_ble_eq_true rfl, Nat.le_of_ble_eq_true rfl⟩) (wrV (fr_mid [] (OW G qo o) hP) (fr_midD [] (OW G qo o) hD) hK 7 0 rfl rfl) rfl rfl hl.1 rfl (lv_room (Nat.le_of_ble_eq_true rfl)) dL_addSurcharge_5 ⟨Nat.zero_le _, Nat.zero_le _⟩) hP hD hS hA (fun _ => rfl) (fun H locs hP hD hS => ?_)
    refine lv_i2l (v := Int32.toInt64 r.1) hx hb dL_addSurcharge_8 rfl ?_
    refine va_last (D := G.1) hx hb hK.1 hP hD hS 20 3 rfl rfl (by unfold vp_in; decide) dL_addSurcharge_9 (fun H locs hP hD hS => ?_)
    have hP : va_P G.1 vwCl (XW G q qo (r.2, vp_updL o 0 (Int32.toInt64 r.1))) H := hP
    refine lv_goto (tgt := 21) hx hb dL_addSurcharge_10 (by decide) ?_
    refine lv_iconst (v := 0) hx hb dL_addSurcharge_21 (by decide) ?_
    refine W.widen (k := 1) (n := 6) (Nat.le_of_ble_eq_true rfl) (Nat.le_of_ble_eq_true rfl) ?_
    have h : some ((0 : Int32), (r.2, vp_updL o 0 (Int32.toInt64 r.1))) = some out := h
    exact W.iret (v := 0) hx hb hr (fun t ht _ => ⟨⟨0, (r.2, vp_updL o 0 (Int32.toInt64 r.1)), rfl, Option.some.inj h, by show va_P G.1 vwCl (XW G q qo (r.2, vp_updL o 0 (Int32.toInt64 r.1))) t.heap; rw [ht]; exact hP⟩, hS.F ht⟩) hS.2.2 dL_addSurcharge_22 hlocks

def rmL_removeLayer : Room := { frames := 7, cells := 1, slots := 6, locals := 120 }
set_option maxHeartbeats 4000000 in
set_option maxRecDepth 100000 in
theorem kL_removeLayer (l : Launch) (hl0 : l.stackTraces = false) (G : GT) (q : Nat → Nat) (qo : Nat) (C : St) (o : Nat → Int64) (sz : Nat) (out : Int32 × (St × (Nat → Int64))) (h : pL_removeLayer C o = some out) : Met l yL_removeLayer wsL_removeLayer rmL_removeLayer (va_Pc [.ref (q 0), .ref qo] (xP G (XW G q qo (C, o)) sz)) (va_Qi (fun r u => (r, u) = out) (fun u t => va_P G.1 vwCl (XW G q qo u) t.heap) (va_A (XW G q qo (C, o)) sz)) 1 6 (va_A (XW G q qo (C, o)) sz) := by
  refine va_MetW (cc := cL_removeLayer) (maxL := 3) (ret := (some .int)) (by decide) rfl ?_
  intro p e s m args below meth c s₁ B hml hv
  obtain ⟨rfl, ⟨hsz, hP, hK, hD0⟩, hE⟩ := hv
  have htab := vx_table (x := yL_removeLayer) B (atoms_spec (ws := wsL_removeLayer) B.pre _ List.mem_cons_self)
  have bx := bx_of B hml
  subst hsz
  have hD := hD0.self (sz := s.heap.size)
  generalize hAe : va_A (XW G q qo (C, o)) s.heap.size = A at hD hE ⊢
  have hA : ∀ q : Nat, s.heap.size ≤ q → A q := fun q h => by rw [← hAe]; exact Or.inr h
  have hS : va_S A s.heap s.heap [] := va_S.rf
  have hP : va_P G.1 vwCl ([] ++ (CW G q C ++ OW G qo o)) s.heap := hP
  have hD : va_D A ([] ++ (CW G q C ++ OW G qo o)) := hD
  obtain ⟨hx, hb, hr, hts, hown, hml, hlocks⟩ := id bx
  have hl := lv_entry ([.ref (q 0), .ref qo]) (n := 3) (Nat.le_of_ble_eq_true rfl)
  rw [lg_entry_eq]
  generalize (lg_sl ([.ref (q 0), .ref qo]) ++ List.replicate (3 - (lg_sl ([.ref (q 0), .ref qo])).length) Slot.unset).toArray = ls at hl ⊢
  have hl : lv_has ls 3 [(0, .ref (q 0)), (1, .ref qo)] := hl
  unfold pL_removeLayer at h
  rcases hc : pX6_removeLayer C with _ | (⟨ek, eC⟩ | r)
  · rw [hc] at h; cases h
  · rw [hc] at h
    by_cases h0 : ek = 3
    · subst h0
      have h : some ((1 : Int32), (eC, o)) = some out := h
      refine lv_aload_n hx hb dL_removeLayer_0 rfl (lv_at hl 1 rfl) ?_
      refine lv_iconst (v := 0) hx hb dL_removeLayer_1 (by decide) ?_
      refine lv_aload_n hx hb dL_removeLayer_2 rfl (lv_at hl 0 rfl) ?_
      refine x_call (Wd := CW G q) (e' := (3, eC)) [] (OW G qo o) (vx_runV (As := []) (rest := [.int 0, .ref qo]) ⟨hx, hb, hml, hown, hts⟩ (xX6_removeLayer l hl0 G q C _ (3, eC) hc) (cwV 0 hts gL_removeLayer_X6_removeLayer rfl rfl rfl (by decide +kernel) ⟨Nat.le_of_ble_eq_true rfl, Nat.le_of_ble_eq_true rfl⟩) (xV (fr_mid [] (OW G qo o) hP) (fr_midD [] (OW G qo o) hD) hS hK hA hE 7 0 rfl rfl) rfl rfl hl.1 rfl (lv_room (Nat.le_of_ble_eq_true rfl)) dL_removeLayer_3 ⟨Nat.le_of_ble_eq_true rfl, Nat.le_of_ble_eq_true rfl⟩) hP hD hS hA (fun _ => rfl) (fun ce q9 H locs hP hD hS hce hcv hcl => ?_)
      refine vx_catch hown [] (⟨0, 8, 11, 17⟩ : ExceptionTableEntry) [] (htab.trans rfl) (fun _ hz => absurd hz List.not_mem_nil) (by decide) (by decide) (w_mem hts 1 rfl) (hK.2.at 62 rfl) hce hcv hcl ?_
      refine lv_astore_n (lv' := [(2, .ref q9), (0, .ref (q 0)), (1, .ref qo)]) hx hb dL_removeLayer_11 rfl hl (by decide) rfl (fun ls hl => ?_)
      refine lv_iconst (v := 1) hx hb dL_removeLayer_12 (by decide) ?_
      exact W.iret (v := 1) hx hb hr (fun t ht _ => ⟨⟨1, (eC, o), rfl, Option.some.inj h, by show va_P G.1 vwCl (XW G q qo (eC, o)) t.heap; rw [ht]; exact hP⟩, hS.F ht⟩) hS.2.2 dL_removeLayer_13 hlocks
    · exact absurd h (by simp [lresW, cdL_removeLayer, h0])
  · rw [hc] at h
    refine lv_aload_n hx hb dL_removeLayer_0 rfl (lv_at hl 1 rfl) ?_
    refine lv_iconst (v := 0) hx hb dL_removeLayer_1 (by decide) ?_
    refine lv_aload_n hx hb dL_removeLayer_2 rfl (lv_at hl 0 rfl) ?_
    refine wf_i (Wd := CW G q) [] (OW G qo o) (va_runV (As := []) (rest := [.int 0, .ref qo]) ⟨hx, hb, hml, hown, hts⟩ (kX6_removeLayer l G q C _ r hc) (cwV 0 hts gL_removeLayer_X6_removeLayer rfl rfl rfl (by decide +kernel) ⟨Nat.le_of_ble_eq_true rfl, Nat.le_of_ble_eq_true rfl⟩) (wrV (fr_mid [] (OW G qo o) hP) (fr_midD [] (OW G qo o) hD) hK 7 0 rfl rfl) rfl rfl hl.1 rfl (lv_room (Nat.le_of_ble_eq_true rfl)) dL_removeLayer_3 ⟨Nat.zero_le _, Nat.zero_le _⟩) hP hD hS hA (fun _ => rfl) (fun H locs hP hD hS => ?_)
    refine lv_i2l (v := Int32.toInt64 r.1) hx hb dL_removeLayer_6 rfl ?_
    refine va_last (D := G.1) hx hb hK.1 hP hD hS 20 3 rfl rfl (by unfold vp_in; decide) dL_removeLayer_7 (fun H locs hP hD hS => ?_)
    have hP : va_P G.1 vwCl (XW G q qo (r.2, vp_updL o 0 (Int32.toInt64 r.1))) H := hP
    refine lv_goto (tgt := 14) hx hb dL_removeLayer_8 (by decide) ?_
    refine lv_iconst (v := 0) hx hb dL_removeLayer_14 (by decide) ?_
    refine W.widen (k := 1) (n := 6) (Nat.le_of_ble_eq_true rfl) (Nat.le_of_ble_eq_true rfl) ?_
    have h : some ((0 : Int32), (r.2, vp_updL o 0 (Int32.toInt64 r.1))) = some out := h
    exact W.iret (v := 0) hx hb hr (fun t ht _ => ⟨⟨0, (r.2, vp_updL o 0 (Int32.toInt64 r.1)), rfl, Option.some.inj h, by show va_P G.1 vwCl (XW G q qo (r.2, vp_updL o 0 (Int32.toInt64 r.1))) t.heap; rw [ht]; exact hP⟩, hS.F ht⟩) hS.2.2 dL_removeLayer_15 hlocks

def rmL_price : Room := { frames := 8, cells := 1, slots := 6, locals := 142 }
set_option maxHeartbeats 4000000 in
set_option maxRecDepth 100000 in
theorem kL_price (l : Launch) (hl0 : l.stackTraces = false) (G : GT) (q : Nat → Nat) (qo : Nat) (C : St) (o : Nat → Int64) (sz : Nat) (x1 : Int32) (out : Int32 × (St × (Nat → Int64))) (h : pL_price C o x1 = some out) : Met l yL_price wsL_price rmL_price (va_Pc [.ref (q 0), .int x1, .ref qo] (xP G (XW G q qo (C, o)) sz)) (va_Qi (fun r u => (r, u) = out) (fun u t => va_P G.1 vwCl (XW G q qo u) t.heap) (va_A (XW G q qo (C, o)) sz)) 1 6 (va_A (XW G q qo (C, o)) sz) := by
  refine va_MetW (cc := cL_price) (maxL := 4) (ret := (some .int)) (by decide) rfl ?_
  intro p e s m args below meth c s₁ B hml hv
  obtain ⟨rfl, ⟨hsz, hP, hK, hD0⟩, hE⟩ := hv
  have htab := vx_table (x := yL_price) B (atoms_spec (ws := wsL_price) B.pre _ List.mem_cons_self)
  have bx := bx_of B hml
  subst hsz
  have hD := hD0.self (sz := s.heap.size)
  generalize hAe : va_A (XW G q qo (C, o)) s.heap.size = A at hD hE ⊢
  have hA : ∀ q : Nat, s.heap.size ≤ q → A q := fun q h => by rw [← hAe]; exact Or.inr h
  have hS : va_S A s.heap s.heap [] := va_S.rf
  have hP : va_P G.1 vwCl ([] ++ (CW G q C ++ OW G qo o)) s.heap := hP
  have hD : va_D A ([] ++ (CW G q C ++ OW G qo o)) := hD
  obtain ⟨hx, hb, hr, hts, hown, hml, hlocks⟩ := id bx
  have hl := lv_entry ([.ref (q 0), .int x1, .ref qo]) (n := 4) (Nat.le_of_ble_eq_true rfl)
  rw [lg_entry_eq]
  generalize (lg_sl ([.ref (q 0), .int x1, .ref qo]) ++ List.replicate (4 - (lg_sl ([.ref (q 0), .int x1, .ref qo])).length) Slot.unset).toArray = ls at hl ⊢
  have hl : lv_has ls 4 [(0, .ref (q 0)), (1, .int x1), (2, .ref qo)] := hl
  unfold pL_price at h
  rcases hc : pX6_price C x1 with _ | (ek | r)
  · rw [hc] at h; cases h
  · rw [hc] at h
    by_cases h0 : ek = 2
    · subst h0
      have h : some ((1 : Int32), (C, o)) = some out := h
      refine lv_aload_n hx hb dL_price_0 rfl (lv_at hl 2 rfl) ?_
      refine lv_iconst (v := 0) hx hb dL_price_1 (by decide) ?_
      refine lv_aload_n hx hb dL_price_2 rfl (lv_at hl 0 rfl) ?_
      refine lv_iload_n hx hb dL_price_3 rfl (lv_at hl 1 rfl) ?_
      refine x_call (Wd := CW G q) (e' := (2, C)) [] (OW G qo o) (vx_runV (As := [.int x1]) (rest := [.int 0, .ref qo]) ⟨hx, hb, hml, hown, hts⟩ (xX6_price l hl0 G q C _ x1 2 hc) (cwV 1 hts gL_price_X6_price rfl rfl rfl (by decide +kernel) ⟨Nat.le_of_ble_eq_true rfl, Nat.le_of_ble_eq_true rfl⟩) (xV (fr_mid [] (OW G qo o) hP) (fr_midD [] (OW G qo o) hD) hS hK hA hE 7 0 rfl rfl) rfl rfl hl.1 rfl (lv_room (Nat.le_of_ble_eq_true rfl)) dL_price_4 ⟨Nat.le_of_ble_eq_true rfl, Nat.le_of_ble_eq_true rfl⟩) hP hD hS hA (fun _ => rfl) (fun ce q9 H locs hP hD hS hce hcv hcl => ?_)
      refine vx_catch hown [] (⟨0, 9, 12, 15⟩ : ExceptionTableEntry) [] (htab.trans rfl) (fun _ hz => absurd hz List.not_mem_nil) (by decide) (by decide) (w_mem hts 1 rfl) (hK.2.at 61 rfl) hce hcv hcl ?_
      refine lv_astore_n (lv' := [(3, .ref q9), (0, .ref (q 0)), (1, .int x1), (2, .ref qo)]) hx hb dL_price_12 rfl hl (by decide) rfl (fun ls hl => ?_)
      refine lv_iconst (v := 1) hx hb dL_price_13 (by decide) ?_
      exact W.iret (v := 1) hx hb hr (fun t ht _ => ⟨⟨1, (C, o), rfl, Option.some.inj h, by show va_P G.1 vwCl (XW G q qo (C, o)) t.heap; rw [ht]; exact hP⟩, hS.F ht⟩) hS.2.2 dL_price_14 hlocks
    · exact absurd h (by simp [lresR, cdL_price, h0])
  · rw [hc] at h
    refine lv_aload_n hx hb dL_price_0 rfl (lv_at hl 2 rfl) ?_
    refine lv_iconst (v := 0) hx hb dL_price_1 (by decide) ?_
    refine lv_aload_n hx hb dL_price_2 rfl (lv_at hl 0 rfl) ?_
    refine lv_iload_n hx hb dL_price_3 rfl (lv_at hl 1 rfl) ?_
    refine ro_i (va_runV (As := [.int x1]) (rest := [.int 0, .ref qo]) ⟨hx, hb, hml, hown, hts⟩ (kX6_price l G q C x1 r hc) (cwV 1 hts gL_price_X6_price rfl rfl rfl (by decide +kernel) ⟨Nat.le_of_ble_eq_true rfl, Nat.le_of_ble_eq_true rfl⟩) (roV (fr_mid [] (OW G qo o) hP) hK 7 0 rfl rfl) rfl rfl hl.1 rfl (lv_room (Nat.le_of_ble_eq_true rfl)) dL_price_4 ⟨Nat.zero_le _, Nat.zero_le _⟩) ?_
    refine lv_i2l (v := Int32.toInt64 r) hx hb dL_price_7 rfl ?_
    refine va_last (D := G.1) hx hb hK.1 hP hD hS 20 3 rfl rfl (by unfold vp_in; decide) dL_price_8 (fun H locs hP hD hS => ?_)
    have hP : va_P G.1 vwCl (XW G q qo (C, vp_updL o 0 (Int32.toInt64 r))) H := hP
    refine lv_goto (tgt := 15) hx hb dL_price_9 (by decide) ?_
    refine lv_iconst (v := 0) hx hb dL_price_15 (by decide) ?_
    refine W.widen (k := 1) (n := 6) (Nat.le_of_ble_eq_true rfl) (Nat.le_of_ble_eq_true rfl) ?_
    have h : some ((0 : Int32), (C, vp_updL o 0 (Int32.toInt64 r))) = some out := h
    exact W.iret (v := 0) hx hb hr (fun t ht _ => ⟨⟨0, (C, vp_updL o 0 (Int32.toInt64 r)), rfl, Option.some.inj h, by show va_P G.1 vwCl (XW G q qo (C, vp_updL o 0 (Int32.toInt64 r))) t.heap; rw [ht]; exact hP⟩, hS.F ht⟩) hS.2.2 dL_price_16 hlocks
