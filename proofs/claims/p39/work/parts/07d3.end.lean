def LE (p : Program) (l : Launch) (s : State) (m : MethodId) (meth : Method) (c : Code) (b L : Nat) (xs : Nat → Int32) (G : GT) : Prop :=
  BX p RL wsL_law cL_law 6 ret s m #[.ref b] meth c ∧ l.stackTraces = false ∧ CK G s ∧ XE (LA s) s ∧ va_X b L xs s s.heap ∧ b < s.heap.size ∧ L ≤ 260
set_option maxHeartbeats 4000000 in
set_option maxRecDepth 100000 in
theorem law_end {p : Program} {l : Launch} {e : Env} {s : State} {m : MethodId} {below : List Frame} {meth : Method} {c : Code} {b L : Nat} {xs : Nat → Int32} {G : GT} {u : Nat → Nat} (hL : LE p l s m meth c b L xs G) {C : St} {n : Int32} (e0 : C.2 14 0 = n) (he : pEnd C n) {H : Heap} {locs : List Loc} {ls : Array Slot} (hP : va_P G.1 vwCl (LW G u C) H) (hD : va_D (LA s) (LW G u C)) (hS : va_S (LA s) s.heap H locs) (hl : lv_has ls 6 [(3, .int (nI 24)), (2, .ref (u 0)), (1, .ref (u 20)), (0, .ref b)]) : W p l e room_1 s m #[.ref b] below meth c H locs 100 6835 (lw_Z below #[Value.ref b] s) (F0 m 112 ls []) := by
  obtain ⟨⟨hx, hb, hr, hts, hown, hml, hlocks⟩, hl0, hK, hE, hX, hbl, hL2⟩ := id hL
  obtain ⟨⟨q1, q2, q3, q4, q5, q6⟩, ⟨q7, q8, q9, q10⟩, ⟨q11, q12, q13, q14, q15⟩, ⟨q16, q17⟩⟩ := he
  refine lv_aload_n hx hb dL_law_112 rfl (lv_at hl 1 rfl) ?_
  refine lv_aload_n hx hb dL_law_113 rfl (lv_at hl 2 rfl) ?_
  refine lv_iconst (v := 0) hx hb dL_law_114 (by decide) ?_
  refine va_iald (D := G.1) hx hb hK.1 hP 20 0 rfl rfl (show ix 0 250 by decide) dL_law_115 ?_
  rw [show C.2 14 (0 : Int32).toNatClampNeg = n from e0]
  refine lv_iconst (v := 0) hx hb dL_law_116 (by decide) ?_
  have hP : va_P G.1 vwCl ([] ++ (CW G u C ++ (NL G u C))) _ := hP
  have hD : va_D (LA s) ([] ++ (CW G u C ++ (NL G u C))) := hD
  refine wf_i (Wd := CW G u) [] (NL G u C) (vx_runSW (As := [.ref (u 0), .int n, .int 0]) (rest := []) ⟨hx, hb, hml, hown, hts⟩ (kL_addFeature l hl0 G u C _ n 0 ((-900001), C) (q1)) (vx_cwSW 3 hts gL_law_L_addFeature rfl rfl rfl (by decide +kernel) ⟨Nat.le_of_ble_eq_true rfl, Nat.le_of_ble_eq_true rfl⟩) (xS (fr_mid [] (NL G u C) hP) (fr_midD [] (NL G u C) hD) hS hK lw_hA hE) rfl rfl hl.1 rfl (lv_room (Nat.le_of_ble_eq_true rfl)) dL_law_117 ⟨Nat.le_of_ble_eq_true rfl, Nat.le_of_ble_eq_true rfl⟩) hP hD hS lw_hA (fun _ => rfl) (fun H locs hP hD hS => ?_)
  have hP : va_P G.1 vwCl (LW G u C) _ := hP
  have hD : va_D (LA s) (LW G u C) := hD
  refine lv_ldc (own := RL) (v := -900001) hx hb hown (w_mem hts 1 rfl) dL_law_120 ?_
  refine lv_icmp_ne (tgt := 294) hx hb dL_law_122 (by decide) (fun c_ => absurd rfl c_) (fun _ => ?_)
  refine lv_aload_n hx hb dL_law_125 rfl (lv_at hl 1 rfl) ?_
  refine lv_iconst (v := 0) hx hb dL_law_126 (by decide) ?_
  refine lv_iconst (v := (-1)) hx hb dL_law_127 (by decide) ?_
  have hP : va_P G.1 vwCl ([] ++ (CW G u C ++ (NL G u C))) _ := hP
  have hD : va_D (LA s) ([] ++ (CW G u C ++ (NL G u C))) := hD
  refine wf_i (Wd := CW G u) [] (NL G u C) (vx_runSW (As := [.ref (u 0), .int 0, .int (-1)]) (rest := []) ⟨hx, hb, hml, hown, hts⟩ (kL_addFeature l hl0 G u C _ 0 (-1) ((-900002), C) (q2)) (vx_cwSW 3 hts gL_law_L_addFeature rfl rfl rfl (by decide +kernel) ⟨Nat.le_of_ble_eq_true rfl, Nat.le_of_ble_eq_true rfl⟩) (xS (fr_mid [] (NL G u C) hP) (fr_midD [] (NL G u C) hD) hS hK lw_hA hE) rfl rfl hl.1 rfl (lv_room (Nat.le_of_ble_eq_true rfl)) dL_law_128 ⟨Nat.le_of_ble_eq_true rfl, Nat.le_of_ble_eq_true rfl⟩) hP hD hS lw_hA (fun _ => rfl) (fun H locs hP hD hS => ?_)
  have hP : va_P G.1 vwCl (LW G u C) _ := hP
  have hD : va_D (LA s) (LW G u C) := hD
  refine lv_ldc (own := RL) (v := -900002) hx hb hown (w_mem hts 2 rfl) dL_law_131 ?_
  refine lv_icmp_ne (tgt := 294) hx hb dL_law_133 (by decide) (fun c_ => absurd rfl c_) (fun _ => ?_)
  refine lv_aload_n hx hb dL_law_136 rfl (lv_at hl 1 rfl) ?_
  refine lv_aload_n hx hb dL_law_137 rfl (lv_at hl 2 rfl) ?_
  refine lv_iconst (v := 0) hx hb dL_law_138 (by decide) ?_
  refine va_iald (D := G.1) hx hb hK.1 hP 20 0 rfl rfl (show ix 0 250 by decide) dL_law_139 ?_
  rw [show C.2 14 (0 : Int32).toNatClampNeg = n from e0]
  refine lv_iconst (v := 1) hx hb dL_law_140 (by decide) ?_
  have hP : va_P G.1 vwCl ([] ++ (CW G u C ++ (NL G u C))) _ := hP
  have hD : va_D (LA s) ([] ++ (CW G u C ++ (NL G u C))) := hD
  refine wf_i (Wd := CW G u) [] (NL G u C) (vx_runSW (As := [.ref (u 0), .int n, .int 1]) (rest := []) ⟨hx, hb, hml, hown, hts⟩ (kL_setMandatory l hl0 G u C _ n 1 ((-900001), C) (q3)) (vx_cwSW 3 hts gL_law_L_setMandatory rfl rfl rfl (by decide +kernel) ⟨Nat.le_of_ble_eq_true rfl, Nat.le_of_ble_eq_true rfl⟩) (xS (fr_mid [] (NL G u C) hP) (fr_midD [] (NL G u C) hD) hS hK lw_hA hE) rfl rfl hl.1 rfl (lv_room (Nat.le_of_ble_eq_true rfl)) dL_law_141 ⟨Nat.le_of_ble_eq_true rfl, Nat.le_of_ble_eq_true rfl⟩) hP hD hS lw_hA (fun _ => rfl) (fun H locs hP hD hS => ?_)
  have hP : va_P G.1 vwCl (LW G u C) _ := hP
  have hD : va_D (LA s) (LW G u C) := hD
  refine lv_ldc (own := RL) (v := -900001) hx hb hown (w_mem hts 1 rfl) dL_law_144 ?_
  refine lv_icmp_ne (tgt := 294) hx hb dL_law_146 (by decide) (fun c_ => absurd rfl c_) (fun _ => ?_)
  refine lv_aload_n hx hb dL_law_149 rfl (lv_at hl 1 rfl) ?_
  refine lv_iconst (v := (-1)) hx hb dL_law_150 (by decide) ?_
  refine lv_iconst (v := 0) hx hb dL_law_151 (by decide) ?_
  refine lv_iconst (v := 0) hx hb dL_law_152 (by decide) ?_
  have hP : va_P G.1 vwCl ([] ++ (CW G u C ++ (NL G u C))) _ := hP
  have hD : va_D (LA s) ([] ++ (CW G u C ++ (NL G u C))) := hD
  refine wf_i (Wd := CW G u) [] (NL G u C) (vx_runSW (As := [.ref (u 0), .int (-1), .int 0, .int 0]) (rest := []) ⟨hx, hb, hml, hown, hts⟩ (kL_setGroup l hl0 G u C _ (-1) 0 0 ((-900001), C) (q4)) (vx_cwSW 4 hts gL_law_L_setGroup rfl rfl rfl (by decide +kernel) ⟨Nat.le_of_ble_eq_true rfl, Nat.le_of_ble_eq_true rfl⟩) (xS (fr_mid [] (NL G u C) hP) (fr_midD [] (NL G u C) hD) hS hK lw_hA hE) rfl rfl hl.1 rfl (lv_room (Nat.le_of_ble_eq_true rfl)) dL_law_153 ⟨Nat.le_of_ble_eq_true rfl, Nat.le_of_ble_eq_true rfl⟩) hP hD hS lw_hA (fun _ => rfl) (fun H locs hP hD hS => ?_)
  have hP : va_P G.1 vwCl (LW G u C) _ := hP
  have hD : va_D (LA s) (LW G u C) := hD
  refine lv_ldc (own := RL) (v := -900001) hx hb hown (w_mem hts 1 rfl) dL_law_156 ?_
  refine lv_icmp_ne (tgt := 294) hx hb dL_law_158 (by decide) (fun c_ => absurd rfl c_) (fun _ => ?_)
  refine lv_aload_n hx hb dL_law_161 rfl (lv_at hl 1 rfl) ?_
  refine lv_iconst (v := 0) hx hb dL_law_162 (by decide) ?_
  refine lv_iconst (v := (-1)) hx hb dL_law_163 (by decide) ?_
  refine lv_iconst (v := 0) hx hb dL_law_164 (by decide) ?_
  have hP : va_P G.1 vwCl ([] ++ (CW G u C ++ (NL G u C))) _ := hP
  have hD : va_D (LA s) ([] ++ (CW G u C ++ (NL G u C))) := hD
  refine wf_i (Wd := CW G u) [] (NL G u C) (vx_runSW (As := [.ref (u 0), .int 0, .int (-1), .int 0]) (rest := []) ⟨hx, hb, hml, hown, hts⟩ (kL_setGroup l hl0 G u C _ 0 (-1) 0 ((-900002), C) (q5)) (vx_cwSW 4 hts gL_law_L_setGroup rfl rfl rfl (by decide +kernel) ⟨Nat.le_of_ble_eq_true rfl, Nat.le_of_ble_eq_true rfl⟩) (xS (fr_mid [] (NL G u C) hP) (fr_midD [] (NL G u C) hD) hS hK lw_hA hE) rfl rfl hl.1 rfl (lv_room (Nat.le_of_ble_eq_true rfl)) dL_law_165 ⟨Nat.le_of_ble_eq_true rfl, Nat.le_of_ble_eq_true rfl⟩) hP hD hS lw_hA (fun _ => rfl) (fun H locs hP hD hS => ?_)
  have hP : va_P G.1 vwCl (LW G u C) _ := hP
  have hD : va_D (LA s) (LW G u C) := hD
  refine lv_ldc (own := RL) (v := -900002) hx hb hown (w_mem hts 2 rfl) dL_law_168 ?_
  refine lv_icmp_ne (tgt := 294) hx hb dL_law_170 (by decide) (fun c_ => absurd rfl c_) (fun _ => ?_)
  refine lv_aload_n hx hb dL_law_173 rfl (lv_at hl 1 rfl) ?_
  refine lv_iconst (v := 0) hx hb dL_law_174 (by decide) ?_
  refine lv_iconst (v := 0) hx hb dL_law_175 (by decide) ?_
  refine lv_bipush (v := 13) hx hb dL_law_176 (by decide) ?_
  have hP : va_P G.1 vwCl ([] ++ (CW G u C ++ (NL G u C))) _ := hP
  have hD : va_D (LA s) ([] ++ (CW G u C ++ (NL G u C))) := hD
  refine wf_i (Wd := CW G u) [] (NL G u C) (vx_runSW (As := [.ref (u 0), .int 0, .int 0, .int 13]) (rest := []) ⟨hx, hb, hml, hown, hts⟩ (kL_setGroup l hl0 G u C _ 0 0 13 ((-900002), C) (q6)) (vx_cwSW 4 hts gL_law_L_setGroup rfl rfl rfl (by decide +kernel) ⟨Nat.le_of_ble_eq_true rfl, Nat.le_of_ble_eq_true rfl⟩) (xS (fr_mid [] (NL G u C) hP) (fr_midD [] (NL G u C) hD) hS hK lw_hA hE) rfl rfl hl.1 rfl (lv_room (Nat.le_of_ble_eq_true rfl)) dL_law_178 ⟨Nat.le_of_ble_eq_true rfl, Nat.le_of_ble_eq_true rfl⟩) hP hD hS lw_hA (fun _ => rfl) (fun H locs hP hD hS => ?_)
  have hP : va_P G.1 vwCl (LW G u C) _ := hP
  have hD : va_D (LA s) (LW G u C) := hD
  refine lv_ldc (own := RL) (v := -900002) hx hb hown (w_mem hts 2 rfl) dL_law_181 ?_
  refine lv_icmp_ne (tgt := 294) hx hb dL_law_183 (by decide) (fun c_ => absurd rfl c_) (fun _ => ?_)
  refine lv_aload_n hx hb dL_law_186 rfl (lv_at hl 1 rfl) ?_
  refine lv_iconst (v := 0) hx hb dL_law_187 (by decide) ?_
  refine lv_aload_n hx hb dL_law_188 rfl (lv_at hl 2 rfl) ?_
  refine lv_iconst (v := 0) hx hb dL_law_189 (by decide) ?_
  refine va_iald (D := G.1) hx hb hK.1 hP 20 0 rfl rfl (show ix 0 250 by decide) dL_law_190 ?_
  rw [show C.2 14 (0 : Int32).toNatClampNeg = n from e0]
  have hP : va_P G.1 vwCl ([] ++ (CW G u C ++ (NL G u C))) _ := hP
  have hD : va_D (LA s) ([] ++ (CW G u C ++ (NL G u C))) := hD
  refine wf_i (Wd := CW G u) [] (NL G u C) (vx_runSW (As := [.ref (u 0), .int 0, .int n]) (rest := []) ⟨hx, hb, hml, hown, hts⟩ (kL_require l hl0 G u C _ 0 n ((-900001), C) (q7)) (vx_cwSW 3 hts gL_law_L_require rfl rfl rfl (by decide +kernel) ⟨Nat.le_of_ble_eq_true rfl, Nat.le_of_ble_eq_true rfl⟩) (xS (fr_mid [] (NL G u C) hP) (fr_midD [] (NL G u C) hD) hS hK lw_hA hE) rfl rfl hl.1 rfl (lv_room (Nat.le_of_ble_eq_true rfl)) dL_law_191 ⟨Nat.le_of_ble_eq_true rfl, Nat.le_of_ble_eq_true rfl⟩) hP hD hS lw_hA (fun _ => rfl) (fun H locs hP hD hS => ?_)
  have hP : va_P G.1 vwCl (LW G u C) _ := hP
  have hD : va_D (LA s) (LW G u C) := hD
  refine lv_ldc (own := RL) (v := -900001) hx hb hown (w_mem hts 1 rfl) dL_law_194 ?_
  refine lv_icmp_ne (tgt := 294) hx hb dL_law_196 (by decide) (fun c_ => absurd rfl c_) (fun _ => ?_)
  refine lv_aload_n hx hb dL_law_199 rfl (lv_at hl 1 rfl) ?_
  refine lv_iconst (v := (-1)) hx hb dL_law_200 (by decide) ?_
  refine lv_iconst (v := 0) hx hb dL_law_201 (by decide) ?_
  have hP : va_P G.1 vwCl ([] ++ (CW G u C ++ (NL G u C))) _ := hP
  have hD : va_D (LA s) ([] ++ (CW G u C ++ (NL G u C))) := hD
  refine wf_i (Wd := CW G u) [] (NL G u C) (vx_runSW (As := [.ref (u 0), .int (-1), .int 0]) (rest := []) ⟨hx, hb, hml, hown, hts⟩ (kL_exclude l hl0 G u C _ (-1) 0 ((-900001), C) (q8)) (vx_cwSW 3 hts gL_law_L_exclude rfl rfl rfl (by decide +kernel) ⟨Nat.le_of_ble_eq_true rfl, Nat.le_of_ble_eq_true rfl⟩) (xS (fr_mid [] (NL G u C) hP) (fr_midD [] (NL G u C) hD) hS hK lw_hA hE) rfl rfl hl.1 rfl (lv_room (Nat.le_of_ble_eq_true rfl)) dL_law_202 ⟨Nat.le_of_ble_eq_true rfl, Nat.le_of_ble_eq_true rfl⟩) hP hD hS lw_hA (fun _ => rfl) (fun H locs hP hD hS => ?_)
  have hP : va_P G.1 vwCl (LW G u C) _ := hP
  have hD : va_D (LA s) (LW G u C) := hD
  refine lv_ldc (own := RL) (v := -900001) hx hb hown (w_mem hts 1 rfl) dL_law_205 ?_
  refine lv_icmp_ne (tgt := 294) hx hb dL_law_207 (by decide) (fun c_ => absurd rfl c_) (fun _ => ?_)
  refine lv_aload_n hx hb dL_law_210 rfl (lv_at hl 1 rfl) ?_
  refine lv_iconst (v := 0) hx hb dL_law_211 (by decide) ?_
  refine lv_iconst (v := 0) hx hb dL_law_212 (by decide) ?_
  refine lv_aload_n hx hb dL_law_213 rfl (lv_at hl 2 rfl) ?_
  refine lv_iconst (v := 0) hx hb dL_law_214 (by decide) ?_
  refine va_iald (D := G.1) hx hb hK.1 hP 20 0 rfl rfl (show ix 0 250 by decide) dL_law_215 ?_
  rw [show C.2 14 (0 : Int32).toNatClampNeg = n from e0]
  have hP : va_P G.1 vwCl ([] ++ (CW G u C ++ (NL G u C))) _ := hP
  have hD : va_D (LA s) ([] ++ (CW G u C ++ (NL G u C))) := hD
  refine wf_i (Wd := CW G u) [] (NL G u C) (vx_runSW (As := [.ref (u 0), .int 0, .int 0, .int n]) (rest := []) ⟨hx, hb, hml, hown, hts⟩ (kL_any l hl0 G u C _ 0 0 n ((-900001), C) (q9)) (vx_cwSW 4 hts gL_law_L_any rfl rfl rfl (by decide +kernel) ⟨Nat.le_of_ble_eq_true rfl, Nat.le_of_ble_eq_true rfl⟩) (xS (fr_mid [] (NL G u C) hP) (fr_midD [] (NL G u C) hD) hS hK lw_hA hE) rfl rfl hl.1 rfl (lv_room (Nat.le_of_ble_eq_true rfl)) dL_law_216 ⟨Nat.le_of_ble_eq_true rfl, Nat.le_of_ble_eq_true rfl⟩) hP hD hS lw_hA (fun _ => rfl) (fun H locs hP hD hS => ?_)
  have hP : va_P G.1 vwCl (LW G u C) _ := hP
  have hD : va_D (LA s) (LW G u C) := hD
  refine lv_ldc (own := RL) (v := -900001) hx hb hown (w_mem hts 1 rfl) dL_law_219 ?_
  refine lv_icmp_ne (tgt := 294) hx hb dL_law_221 (by decide) (fun c_ => absurd rfl c_) (fun _ => ?_)
  refine lv_aload_n hx hb dL_law_224 rfl (lv_at hl 1 rfl) ?_
  refine lv_iconst (v := (-1)) hx hb dL_law_225 (by decide) ?_
  have hP : va_P G.1 vwCl ([] ++ (CW G u C ++ (NL G u C))) _ := hP
  have hD : va_D (LA s) ([] ++ (CW G u C ++ (NL G u C))) := hD
  refine wf_i (Wd := CW G u) [] (NL G u C) (vx_runSW (As := [.ref (u 0), .int (-1)]) (rest := []) ⟨hx, hb, hml, hown, hts⟩ (kL_lift l hl0 G u C _ (-1) ((-900001), C) (q10)) (vx_cwSW 2 hts gL_law_L_lift rfl rfl rfl (by decide +kernel) ⟨Nat.le_of_ble_eq_true rfl, Nat.le_of_ble_eq_true rfl⟩) (xS (fr_mid [] (NL G u C) hP) (fr_midD [] (NL G u C) hD) hS hK lw_hA hE) rfl rfl hl.1 rfl (lv_room (Nat.le_of_ble_eq_true rfl)) dL_law_226 ⟨Nat.le_of_ble_eq_true rfl, Nat.le_of_ble_eq_true rfl⟩) hP hD hS lw_hA (fun _ => rfl) (fun H locs hP hD hS => ?_)
  have hP : va_P G.1 vwCl (LW G u C) _ := hP
  have hD : va_D (LA s) (LW G u C) := hD
  refine lv_ldc (own := RL) (v := -900001) hx hb hown (w_mem hts 1 rfl) dL_law_229 ?_
  refine lv_icmp_ne (tgt := 294) hx hb dL_law_231 (by decide) (fun c_ => absurd rfl c_) (fun _ => ?_)
  refine lv_aload_n hx hb dL_law_234 rfl (lv_at hl 1 rfl) ?_
  refine lv_aload_n hx hb dL_law_235 rfl (lv_at hl 2 rfl) ?_
  refine lv_iconst (v := 0) hx hb dL_law_236 (by decide) ?_
  refine va_iald (D := G.1) hx hb hK.1 hP 20 0 rfl rfl (show ix 0 250 by decide) dL_law_237 ?_
  rw [show C.2 14 (0 : Int32).toNatClampNeg = n from e0]
  have hP : va_P G.1 vwCl ([] ++ (CW G u C ++ (NL G u C))) _ := hP
  have hD : va_D (LA s) ([] ++ (CW G u C ++ (NL G u C))) := hD
  refine wf_i (Wd := CW G u) [] (NL G u C) (vx_runSW (As := [.ref (u 0), .int n]) (rest := []) ⟨hx, hb, hml, hown, hts⟩ (kL_choose l hl0 G u C _ n ((-900001), C) (q11)) (vx_cwSW 2 hts gL_law_L_choose rfl rfl rfl (by decide +kernel) ⟨Nat.le_of_ble_eq_true rfl, Nat.le_of_ble_eq_true rfl⟩) (xS (fr_mid [] (NL G u C) hP) (fr_midD [] (NL G u C) hD) hS hK lw_hA hE) rfl rfl hl.1 rfl (lv_room (Nat.le_of_ble_eq_true rfl)) dL_law_238 ⟨Nat.le_of_ble_eq_true rfl, Nat.le_of_ble_eq_true rfl⟩) hP hD hS lw_hA (fun _ => rfl) (fun H locs hP hD hS => ?_)
  have hP : va_P G.1 vwCl (LW G u C) _ := hP
  have hD : va_D (LA s) (LW G u C) := hD
  refine lv_ldc (own := RL) (v := -900001) hx hb hown (w_mem hts 1 rfl) dL_law_241 ?_
  refine lv_icmp_ne (tgt := 294) hx hb dL_law_243 (by decide) (fun c_ => absurd rfl c_) (fun _ => ?_)
  refine lv_aload_n hx hb dL_law_246 rfl (lv_at hl 1 rfl) ?_
  refine lv_iconst (v := (-1)) hx hb dL_law_247 (by decide) ?_
  have hP : va_P G.1 vwCl ([] ++ (CW G u C ++ (NL G u C))) _ := hP
  have hD : va_D (LA s) ([] ++ (CW G u C ++ (NL G u C))) := hD
  refine wf_i (Wd := CW G u) [] (NL G u C) (vx_runSW (As := [.ref (u 0), .int (-1)]) (rest := []) ⟨hx, hb, hml, hown, hts⟩ (kL_refuse l hl0 G u C _ (-1) ((-900001), C) (q12)) (vx_cwSW 2 hts gL_law_L_refuse rfl rfl rfl (by decide +kernel) ⟨Nat.le_of_ble_eq_true rfl, Nat.le_of_ble_eq_true rfl⟩) (xS (fr_mid [] (NL G u C) hP) (fr_midD [] (NL G u C) hD) hS hK lw_hA hE) rfl rfl hl.1 rfl (lv_room (Nat.le_of_ble_eq_true rfl)) dL_law_248 ⟨Nat.le_of_ble_eq_true rfl, Nat.le_of_ble_eq_true rfl⟩) hP hD hS lw_hA (fun _ => rfl) (fun H locs hP hD hS => ?_)
  have hP : va_P G.1 vwCl (LW G u C) _ := hP
  have hD : va_D (LA s) (LW G u C) := hD
  refine lv_ldc (own := RL) (v := -900001) hx hb hown (w_mem hts 1 rfl) dL_law_251 ?_
  refine lv_icmp_ne (tgt := 294) hx hb dL_law_253 (by decide) (fun c_ => absurd rfl c_) (fun _ => ?_)
  refine lv_aload_n hx hb dL_law_256 rfl (lv_at hl 1 rfl) ?_
  refine lv_aload_n hx hb dL_law_257 rfl (lv_at hl 2 rfl) ?_
  refine lv_iconst (v := 0) hx hb dL_law_258 (by decide) ?_
  refine va_iald (D := G.1) hx hb hK.1 hP 20 0 rfl rfl (show ix 0 250 by decide) dL_law_259 ?_
  rw [show C.2 14 (0 : Int32).toNatClampNeg = n from e0]
  have hP : va_P G.1 vwCl ([] ++ (CW G u C ++ (NL G u C))) _ := hP
  have hD : va_D (LA s) ([] ++ (CW G u C ++ (NL G u C))) := hD
  refine wf_i (Wd := CW G u) [] (NL G u C) (vx_runSW (As := [.ref (u 0), .int n]) (rest := []) ⟨hx, hb, hml, hown, hts⟩ (kL_retract l hl0 G u C _ n ((-900001), C) (q13)) (vx_cwSW 2 hts gL_law_L_retract rfl rfl rfl (by decide +kernel) ⟨Nat.le_of_ble_eq_true rfl, Nat.le_of_ble_eq_true rfl⟩) (xS (fr_mid [] (NL G u C) hP) (fr_midD [] (NL G u C) hD) hS hK lw_hA hE) rfl rfl hl.1 rfl (lv_room (Nat.le_of_ble_eq_true rfl)) dL_law_260 ⟨Nat.le_of_ble_eq_true rfl, Nat.le_of_ble_eq_true rfl⟩) hP hD hS lw_hA (fun _ => rfl) (fun H locs hP hD hS => ?_)
  have hP : va_P G.1 vwCl (LW G u C) _ := hP
  have hD : va_D (LA s) (LW G u C) := hD
  refine lv_ldc (own := RL) (v := -900001) hx hb hown (w_mem hts 1 rfl) dL_law_263 ?_
  refine lv_icmp_ne (tgt := 294) hx hb dL_law_265 (by decide) (fun c_ => absurd rfl c_) (fun _ => ?_)
  refine lv_aload_n hx hb dL_law_268 rfl (lv_at hl 1 rfl) ?_
  refine lv_iconst (v := (-1)) hx hb dL_law_269 (by decide) ?_
  have hP : va_P G.1 vwCl ([] ++ (CW G u C ++ (NL G u C))) _ := hP
  have hD : va_D (LA s) ([] ++ (CW G u C ++ (NL G u C))) := hD
  refine wf_i (Wd := CW G u) [] (NL G u C) (vx_runSW (As := [.ref (u 0), .int (-1)]) (rest := []) ⟨hx, hb, hml, hown, hts⟩ (kL_stateOf l hl0 G u C _ (-1) ((-900001), C) (q14)) (vx_cwSW 2 hts gL_law_L_stateOf rfl rfl rfl (by decide +kernel) ⟨Nat.le_of_ble_eq_true rfl, Nat.le_of_ble_eq_true rfl⟩) (xS (fr_mid [] (NL G u C) hP) (fr_midD [] (NL G u C) hD) hS hK lw_hA hE) rfl rfl hl.1 rfl (lv_room (Nat.le_of_ble_eq_true rfl)) dL_law_270 ⟨Nat.le_of_ble_eq_true rfl, Nat.le_of_ble_eq_true rfl⟩) hP hD hS lw_hA (fun _ => rfl) (fun H locs hP hD hS => ?_)
  have hP : va_P G.1 vwCl (LW G u C) _ := hP
  have hD : va_D (LA s) (LW G u C) := hD
  refine lv_ldc (own := RL) (v := -900001) hx hb hown (w_mem hts 1 rfl) dL_law_273 ?_
  refine lv_icmp_ne (tgt := 294) hx hb dL_law_275 (by decide) (fun c_ => absurd rfl c_) (fun _ => ?_)
  refine lv_aload_n hx hb dL_law_278 rfl (lv_at hl 1 rfl) ?_
  refine lv_aload_n hx hb dL_law_279 rfl (lv_at hl 2 rfl) ?_
  refine lv_iconst (v := 0) hx hb dL_law_280 (by decide) ?_
  refine va_iald (D := G.1) hx hb hK.1 hP 20 0 rfl rfl (show ix 0 250 by decide) dL_law_281 ?_
  rw [show C.2 14 (0 : Int32).toNatClampNeg = n from e0]
  have hP : va_P G.1 vwCl ([] ++ (CW G u C ++ (NL G u C))) _ := hP
  have hD : va_D (LA s) ([] ++ (CW G u C ++ (NL G u C))) := hD
  refine wf_i (Wd := CW G u) [] (NL G u C) (vx_runSW (As := [.ref (u 0), .int n]) (rest := []) ⟨hx, hb, hml, hown, hts⟩ (kL_stateByAll l hl0 G u C _ n ((-900001), C) (q15)) (vx_cwSW 2 hts gL_law_L_stateByAll rfl rfl rfl (by decide +kernel) ⟨Nat.le_of_ble_eq_true rfl, Nat.le_of_ble_eq_true rfl⟩) (xS (fr_mid [] (NL G u C) hP) (fr_midD [] (NL G u C) hD) hS hK lw_hA hE) rfl rfl hl.1 rfl (lv_room (Nat.le_of_ble_eq_true rfl)) dL_law_282 ⟨Nat.le_of_ble_eq_true rfl, Nat.le_of_ble_eq_true rfl⟩) hP hD hS lw_hA (fun _ => rfl) (fun H locs hP hD hS => ?_)
  have hP : va_P G.1 vwCl (LW G u C) _ := hP
  have hD : va_D (LA s) (LW G u C) := hD
  refine lv_ldc (own := RL) (v := -900001) hx hb hown (w_mem hts 1 rfl) dL_law_285 ?_
  refine lv_icmp_ne (tgt := 294) hx hb dL_law_287 (by decide) (fun c_ => absurd rfl c_) (fun _ => ?_)
  refine lv_iconst (v := 1) hx hb dL_law_290 (by decide) ?_
  refine lv_goto (tgt := 295) hx hb dL_law_291 (by decide) ?_
  refine lv_istore_n (lv' := [(3, .int 1), (2, .ref (u 0)), (1, .ref (u 20)), (0, .ref b)]) hx hb dL_law_295 rfl hl (by decide) rfl (fun ls hl => ?_)
  refine lv_iload_n hx hb dL_law_296 rfl (lv_at hl 0 rfl) ?_
  refine lv_if_eq (tgt := 328) hx hb dL_law_297 (by decide) (fun c_ => absurd c_ (by decide)) (fun _ => ?_)
  refine lv_aload_n hx hb dL_law_300 rfl (lv_at hl 1 rfl) ?_
  refine lv_iconst (v := (-1)) hx hb dL_law_301 (by decide) ?_
  have hP : va_P G.1 vwCl ([] ++ (CW G u C ++ (NL G u C))) _ := hP
  have hD : va_D (LA s) ([] ++ (CW G u C ++ (NL G u C))) := hD
  refine wf_i (Wd := CW G u) [] (NL G u C) (vx_runSW (As := [.ref (u 0), .int (-1)]) (rest := []) ⟨hx, hb, hml, hown, hts⟩ (kL_isConfiguration l hl0 G u C _ (-1) ((-900001), C) (q16)) (vx_cwSW 2 hts gL_law_L_isConfiguration rfl rfl rfl (by decide +kernel) ⟨Nat.le_of_ble_eq_true rfl, Nat.le_of_ble_eq_true rfl⟩) (xS (fr_mid [] (NL G u C) hP) (fr_midD [] (NL G u C) hD) hS hK lw_hA hE) rfl rfl hl.1 rfl (lv_room (Nat.le_of_ble_eq_true rfl)) dL_law_302 ⟨Nat.le_of_ble_eq_true rfl, Nat.le_of_ble_eq_true rfl⟩) hP hD hS lw_hA (fun _ => rfl) (fun H locs hP hD hS => ?_)
  have hP : va_P G.1 vwCl (LW G u C) _ := hP
  have hD : va_D (LA s) (LW G u C) := hD
  refine lv_ldc (own := RL) (v := -900001) hx hb hown (w_mem hts 1 rfl) dL_law_305 ?_
  refine lv_icmp_ne (tgt := 328) hx hb dL_law_307 (by decide) (fun c_ => absurd rfl c_) (fun _ => ?_)
  refine lv_aload_n hx hb dL_law_310 rfl (lv_at hl 1 rfl) ?_
  refine lv_iconst (v := 1) hx hb dL_law_311 (by decide) ?_
  refine lv_aload_n hx hb dL_law_312 rfl (lv_at hl 2 rfl) ?_
  refine lv_iconst (v := 0) hx hb dL_law_313 (by decide) ?_
  refine va_iald (D := G.1) hx hb hK.1 hP 20 0 rfl rfl (show ix 0 250 by decide) dL_law_314 ?_
  rw [show C.2 14 (0 : Int32).toNatClampNeg = n from e0]
  refine lv_ishl hx hb dL_law_315 ?_
  have hP : va_P G.1 vwCl ([] ++ (CW G u C ++ (NL G u C))) _ := hP
  have hD : va_D (LA s) ([] ++ (CW G u C ++ (NL G u C))) := hD
  refine wf_i (Wd := CW G u) [] (NL G u C) (vx_runSW (As := [.ref (u 0), .int ((1 : Int32) <<< (n &&& 31))]) (rest := []) ⟨hx, hb, hml, hown, hts⟩ (kL_isConfiguration l hl0 G u C _ ((1 : Int32) <<< (n &&& 31)) ((-900001), C) (q17)) (vx_cwSW 2 hts gL_law_L_isConfiguration rfl rfl rfl (by decide +kernel) ⟨Nat.le_of_ble_eq_true rfl, Nat.le_of_ble_eq_true rfl⟩) (xS (fr_mid [] (NL G u C) hP) (fr_midD [] (NL G u C) hD) hS hK lw_hA hE) rfl rfl hl.1 rfl (lv_room (Nat.le_of_ble_eq_true rfl)) dL_law_316 ⟨Nat.le_of_ble_eq_true rfl, Nat.le_of_ble_eq_true rfl⟩) hP hD hS lw_hA (fun _ => rfl) (fun H locs hP hD hS => ?_)
  have hP : va_P G.1 vwCl (LW G u C) _ := hP
  have hD : va_D (LA s) (LW G u C) := hD
  refine lv_ldc (own := RL) (v := -900001) hx hb hown (w_mem hts 1 rfl) dL_law_319 ?_
  refine lv_icmp_ne (tgt := 328) hx hb dL_law_321 (by decide) (fun c_ => absurd rfl c_) (fun _ => ?_)
  refine lv_iconst (v := 1) hx hb dL_law_324 (by decide) ?_
  refine lv_goto (tgt := 329) hx hb dL_law_325 (by decide) ?_
  exact va_forget (fun q hq => hS.2.2 q hq) (W.widen (k := 600130) (n := 7301080) (Nat.le_of_ble_eq_true rfl) (Nat.le_of_ble_eq_true rfl) (lw_ret hx hb hr hlocks dL_law_329))
