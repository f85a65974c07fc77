def rmL_areStates : Room := { frames := 19, cells := 0, slots := 0, locals := 480 }

set_option maxHeartbeats 4000000 in
set_option maxRecDepth 100000 in
theorem wL_areStates_136 {p : Program} {l : Launch} {e : Env} {s : State} {m : MethodId} {args : Array Value} {below : List Frame} {meth : Method} {c : Code} {G : GT} {q : Nat → Nat} {C : St} {out : Int32} (bx : BX p RL wsL_areStates cL_areStates 8 (some .boolean) s m args meth c) (hP : va_P G.1 vwCl (LW G q C) s.heap) (hK : CK G s) {k65 : St → Int32 → Int64 → Int32 → Int32 → Option (Int32)} (hk65 : ∀ (x2 : Int32) (x3 : Int64) (x5 : Int32) (x6 : Int32), k65 C x2 x3 x5 x6 = some out → ∀ (ls : Array Slot), lv_has ls 8 [(0, .ref (q 0)), (1, .ref (q 20)), (2, .int x2), (3, .long x3), (5, .int x5), (6, .int x6)] → GoI p l e rmL_areStates s m args below meth c out (F0 m 65 ls [])) (x2 : Int32) (x3 : Int64) (x5 : Int32) (x6 : Int32) (t0 : Int32) (h : pL_areStates_136 k65 C x2 x3 x5 x6 t0 = some out) (ls : Array Slot) (hl : lv_has ls 8 [(0, .ref (q 0)), (1, .ref (q 20)), (2, .int x2), (3, .long x3), (5, .int x5), (6, .int x6)]) : GoI p l e rmL_areStates s m args below meth c out (F0 m 136 ls [.int t0]) := by
  obtain ⟨hx, hb, hr, hts, hown, hml, hlocks⟩ := id bx
  unfold pL_areStates_136 at h
  refine lv_istore (lv' := [(7, .int t0), (0, .ref (q 0)), (1, .ref (q 20)), (2, .int x2), (3, .long x3), (5, .int x5), (6, .int x6)]) hx hb dL_areStates_136 hl (by decide) rfl (fun ls hl => ?_)
  refine lv_aload_n hx hb dL_areStates_138 rfl (lv_at hl 1 rfl) ?_
  refine lv_iload hx hb dL_areStates_139 (lv_at hl 6 rfl) ?_
  obtain ⟨r_7, hr_7, h⟩ := bd_ex h
  refine ro_i (vx_runSW (As := [.ref (q 0), .int x6]) (rest := []) ⟨hx, hb, hml, hown, hts⟩ (knL_stateOf l G q C x6 r_7 hr_7) (vx_cwSW 2 hts gL_areStates_L_stateOf rfl rfl rfl (by decide +kernel) ⟨Nat.le_of_ble_eq_true rfl, Nat.le_of_ble_eq_true rfl⟩) (roS (hP.sub (ws' := CW G q C) [0, 1, 2, 3, 4, 5, 6, 7, 8, 9, 10, 11, 12, 13, 14, 15, 16, 17, 18, 19] rfl) hK) rfl rfl hl.1 rfl (lv_room (Nat.le_of_ble_eq_true rfl)) dL_areStates_141 ⟨Nat.zero_le _, Nat.zero_le _⟩) ?_
  refine lv_iload hx hb dL_areStates_144 (lv_at hl 0 rfl) ?_
  refine lv_icmp_ne (tgt := 160) hx hb dL_areStates_146 (by decide) (fun c_146 => ?_) (fun c_146 => ?_)
  · have h := br_F h c_146
    refine lv_iconst (v := 0) hx hb dL_areStates_160 (by decide) ?_
    exact GoI.end hx hb hr hlocks dL_areStates_161 rfl h
  · have h := br_T h c_146
    refine lv_aload_n hx hb dL_areStates_149 rfl (lv_at hl 1 rfl) ?_
    refine lv_iload hx hb dL_areStates_150 (lv_at hl 6 rfl) ?_
    obtain ⟨r_8, hr_8, h⟩ := bd_ex h
    refine ro_i (vx_runSW (As := [.ref (q 0), .int x6]) (rest := []) ⟨hx, hb, hml, hown, hts⟩ (knL_stateByAll l G q C x6 r_8 hr_8) (vx_cwSW 2 hts gL_areStates_L_stateByAll rfl rfl rfl (by decide +kernel) ⟨Nat.le_of_ble_eq_true rfl, Nat.le_of_ble_eq_true rfl⟩) (roS (hP.sub (ws' := CW G q C) [0, 1, 2, 3, 4, 5, 6, 7, 8, 9, 10, 11, 12, 13, 14, 15, 16, 17, 18, 19] rfl) hK) rfl rfl hl.1 rfl (lv_room (Nat.le_of_ble_eq_true rfl)) dL_areStates_152 ⟨Nat.zero_le _, Nat.zero_le _⟩) ?_
    refine lv_iload hx hb dL_areStates_155 (lv_at hl 0 rfl) ?_
    refine lv_icmp_eq (tgt := 162) hx hb dL_areStates_157 (by decide) (fun c_157 => ?_) (fun c_157 => ?_)
    · have h := br_T h c_157
      obtain ⟨v_9, ev_9, h⟩ := ltv_ex h
      refine lv_iinc (v := v_9) (lv' := [(6, .int v_9), (7, .int t0), (0, .ref (q 0)), (1, .ref (q 20)), (2, .int x2), (3, .long x3), (5, .int x5)]) hx hb dL_areStates_162 hl (k := 6) rfl (by rw [ev_9]; rfl) (by decide) rfl (fun ls hl => ?_)
      refine lv_goto (tgt := 65) hx hb dL_areStates_165 (by decide) ?_
      exact hk65 x2 x3 x5 v_9 h _ (lv_sub hl [2, 3, 4, 5, 6, 0] rfl)
    · have h := br_F h c_157
      refine lv_iconst (v := 0) hx hb dL_areStates_160 (by decide) ?_
      exact GoI.end hx hb hr hlocks dL_areStates_161 rfl h

set_option maxHeartbeats 4000000 in
set_option maxRecDepth 100000 in
theorem wL_areStates_65_b {p : Program} {l : Launch} {e : Env} {s : State} {m : MethodId} {args : Array Value} {below : List Frame} {meth : Method} {c : Code} {G : GT} {q : Nat → Nat} {C : St} {out : Int32} (bx : BX p RL wsL_areStates cL_areStates 8 (some .boolean) s m args meth c) (hP : va_P G.1 vwCl (LW G q C) s.heap) (hK : CK G s) {k65 : St → Int32 → Int64 → Int32 → Int32 → Option (Int32)} (hk65 : ∀ (x2 : Int32) (x3 : Int64) (x5 : Int32) (x6 : Int32), k65 C x2 x3 x5 x6 = some out → ∀ (ls : Array Slot), lv_has ls 8 [(0, .ref (q 0)), (1, .ref (q 20)), (2, .int x2), (3, .long x3), (5, .int x5), (6, .int x6)] → GoI p l e rmL_areStates s m args below meth c out (F0 m 65 ls [])) (x2 : Int32) (x3 : Int64) (x5 : Int32) (x6 : Int32) (h : pL_areStates_65_b k65 C x2 x3 x5 x6 = some out) (ls : Array Slot) (hl : lv_has ls 8 [(0, .ref (q 0)), (1, .ref (q 20)), (2, .int x2), (3, .long x3), (5, .int x5), (6, .int x6)]) : GoI p l e rmL_areStates s m args below meth c out (F0 m 65 ls []) := by
  obtain ⟨hx, hb, hr, hts, hown, hml, hlocks⟩ := id bx
  unfold pL_areStates_65_b at h
  refine lv_iload hx hb dL_areStates_65 (lv_at hl 5 rfl) ?_
  refine lv_aload_n hx hb dL_areStates_67 rfl (lv_at hl 1 rfl) ?_
  refine lv_iconst (v := 0) hx hb dL_areStates_68 (by decide) ?_
  obtain ⟨g69, h⟩ := gd_ex h
  refine va_iald (D := G.1) hx hb hK.1 hP 20 0 rfl rfl g69 dL_areStates_69 ?_
  refine lv_icmp_ge (tgt := 168) hx hb dL_areStates_70 (by decide) (fun c_70 => ?_) (fun c_70 => ?_)
  · have h := br_T h c_70
    refine lv_lload_n hx hb dL_areStates_168 rfl (lv_at hl 3 rfl) ?_
    refine lv_lconst (v := 0) hx hb dL_areStates_169 (by decide) ?_
    refine W.lcmp hx hb dL_areStates_170 ?_
    refine lv_if_le (tgt := 196) hx hb dL_areStates_171 (by decide) (fun c_171 => ?_) (fun c_171 => ?_)
    · have h := br_T h c_171
      refine lv_iconst (v := 0) hx hb dL_areStates_196 (by decide) ?_
      exact GoI.end hx hb hr hlocks dL_areStates_197 rfl h
    · have h := br_F h c_171
      refine lv_aload_n hx hb dL_areStates_174 rfl (lv_at hl 0 rfl) ?_
      obtain ⟨r_1, hr_1, h⟩ := bd_ex h
      refine ro_l (va_runV (As := []) (rest := []) ⟨hx, hb, hml, hown, hts⟩ (kX6_completions l G q C r_1 hr_1) (cwV 0 hts gL_areStates_X6_completions rfl rfl rfl (by decide +kernel) ⟨Nat.le_of_ble_eq_true rfl, Nat.le_of_ble_eq_true rfl⟩) (roV (hP.sub (ws' := CW G q C) [0, 1, 2, 3, 4, 5, 6, 7, 8, 9, 10, 11, 12, 13, 14, 15, 16, 17, 18, 19] rfl) hK 5 0 rfl rfl) rfl rfl hl.1 rfl (lv_room (Nat.le_of_ble_eq_true rfl)) dL_areStates_175 ⟨Nat.zero_le _, Nat.zero_le _⟩) ?_
      refine lv_lload_n hx hb dL_areStates_178 rfl (lv_at hl 3 rfl) ?_
      refine W.lcmp hx hb dL_areStates_179 ?_
      refine lv_if_ne (tgt := 196) hx hb dL_areStates_180 (by decide) (fun c_180 => ?_) (fun c_180 => ?_)
      · have h := br_F h c_180
        refine lv_iconst (v := 0) hx hb dL_areStates_196 (by decide) ?_
        exact GoI.end hx hb hr hlocks dL_areStates_197 rfl h
      · have h := br_T h c_180
        refine lv_aload_n hx hb dL_areStates_183 rfl (lv_at hl 0 rfl) ?_
        obtain ⟨r_2, hr_2, h⟩ := bd_ex h
        refine ro_l (va_runV (As := []) (rest := []) ⟨hx, hb, hml, hown, hts⟩ (kX6_completionsByAll l G q C r_2 hr_2) (cwV 0 hts gL_areStates_X6_completionsByAll rfl rfl rfl (by decide +kernel) ⟨Nat.le_of_ble_eq_true rfl, Nat.le_of_ble_eq_true rfl⟩) (roV (hP.sub (ws' := CW G q C) [0, 1, 2, 3, 4, 5, 6, 7, 8, 9, 10, 11, 12, 13, 14, 15, 16, 17, 18, 19] rfl) hK 5 0 rfl rfl) rfl rfl hl.1 rfl (lv_room (Nat.le_of_ble_eq_true rfl)) dL_areStates_184 ⟨Nat.zero_le _, Nat.zero_le _⟩) ?_
        refine lv_lload_n hx hb dL_areStates_187 rfl (lv_at hl 3 rfl) ?_
        refine W.lcmp hx hb dL_areStates_188 ?_
        refine lv_if_ne (tgt := 196) hx hb dL_areStates_189 (by decide) (fun c_189 => ?_) (fun c_189 => ?_)
        · have h := br_F h c_189
          refine lv_iconst (v := 0) hx hb dL_areStates_196 (by decide) ?_
          exact GoI.end hx hb hr hlocks dL_areStates_197 rfl h
        · have h := br_T h c_189
          refine lv_iconst (v := 1) hx hb dL_areStates_192 (by decide) ?_
          refine lv_goto (tgt := 197) hx hb dL_areStates_193 (by decide) ?_
          exact GoI.end hx hb hr hlocks dL_areStates_197 rfl h
  · have h := br_F h c_70
    refine lv_aload_n hx hb dL_areStates_73 rfl (lv_at hl 1 rfl) ?_
    refine lv_iconst (v := 3) hx hb dL_areStates_74 (by decide) ?_
    obtain ⟨g75, h⟩ := gd_ex h
    refine va_iald (D := G.1) hx hb hK.1 hP 20 0 rfl rfl g75 dL_areStates_75 ?_
    refine lv_iload hx hb dL_areStates_76 (lv_at hl 5 rfl) ?_
    obtain ⟨r_3, hr_3, h⟩ := bd_ex h
    refine ro_i (va_runS (As := [.int (C.2 14 (3 : Int32).toNatClampNeg), .int x6]) (rest := []) ⟨hx, hb, hml, hown, hts⟩ (kL_isIn l (C.2 14 (3 : Int32).toNatClampNeg) x6 r_3 hr_3) (va_cwS 2 hts gL_areStates_L_isIn rfl rfl rfl (by decide +kernel) ⟨Nat.le_of_ble_eq_true rfl, Nat.le_of_ble_eq_true rfl⟩) noS rfl rfl hl.1 rfl (lv_room (Nat.le_of_ble_eq_true rfl)) dL_areStates_78 ⟨Nat.zero_le _, Nat.zero_le _⟩) ?_
    refine lv_if_eq (tgt := 89) hx hb dL_areStates_81 (by decide) (fun c_81 => ?_) (fun c_81 => ?_)
    · have h := br_T h c_81
      refine lv_aload_n hx hb dL_areStates_89 rfl (lv_at hl 1 rfl) ?_
      refine lv_iconst (v := 4) hx hb dL_areStates_90 (by decide) ?_
      obtain ⟨g91, h⟩ := gd_ex h
      refine va_iald (D := G.1) hx hb hK.1 hP 20 0 rfl rfl g91 dL_areStates_91 ?_
      refine lv_iload hx hb dL_areStates_92 (lv_at hl 5 rfl) ?_
      obtain ⟨r_4, hr_4, h⟩ := bd_ex h
      refine ro_i (va_runS (As := [.int (C.2 14 (4 : Int32).toNatClampNeg), .int x6]) (rest := []) ⟨hx, hb, hml, hown, hts⟩ (kL_isIn l (C.2 14 (4 : Int32).toNatClampNeg) x6 r_4 hr_4) (va_cwS 2 hts gL_areStates_L_isIn rfl rfl rfl (by decide +kernel) ⟨Nat.le_of_ble_eq_true rfl, Nat.le_of_ble_eq_true rfl⟩) noS rfl rfl hl.1 rfl (lv_room (Nat.le_of_ble_eq_true rfl)) dL_areStates_94 ⟨Nat.zero_le _, Nat.zero_le _⟩) ?_
      refine lv_if_eq (tgt := 105) hx hb dL_areStates_97 (by decide) (fun c_97 => ?_) (fun c_97 => ?_)
      · have h := br_T h c_97
        refine lv_iload_n hx hb dL_areStates_105 rfl (lv_at hl 2 rfl) ?_
        refine lv_iload hx hb dL_areStates_106 (lv_at hl 5 rfl) ?_
        obtain ⟨r_5, hr_5, h⟩ := bd_ex h
        refine ro_i (va_runS (As := [.int x2, .int x6]) (rest := []) ⟨hx, hb, hml, hown, hts⟩ (kL_isIn l x2 x6 r_5 hr_5) (va_cwS 2 hts gL_areStates_L_isIn rfl rfl rfl (by decide +kernel) ⟨Nat.le_of_ble_eq_true rfl, Nat.le_of_ble_eq_true rfl⟩) noS rfl rfl hl.1 rfl (lv_room (Nat.le_of_ble_eq_true rfl)) dL_areStates_108 ⟨Nat.zero_le _, Nat.zero_le _⟩) ?_
        refine lv_if_eq (tgt := 119) hx hb dL_areStates_111 (by decide) (fun c_111 => ?_) (fun c_111 => ?_)
        · have h := br_T h c_111
          refine lv_iload hx hb dL_areStates_119 (lv_at hl 4 rfl) ?_
          refine lv_iload hx hb dL_areStates_121 (lv_at hl 5 rfl) ?_
          obtain ⟨r_6, hr_6, h⟩ := bd_ex h
          refine ro_i (va_runS (As := [.int x5, .int x6]) (rest := []) ⟨hx, hb, hml, hown, hts⟩ (kL_isIn l x5 x6 r_6 hr_6) (va_cwS 2 hts gL_areStates_L_isIn rfl rfl rfl (by decide +kernel) ⟨Nat.le_of_ble_eq_true rfl, Nat.le_of_ble_eq_true rfl⟩) noS rfl rfl hl.1 rfl (lv_room (Nat.le_of_ble_eq_true rfl)) dL_areStates_123 ⟨Nat.zero_le _, Nat.zero_le _⟩) ?_
          refine lv_if_eq (tgt := 134) hx hb dL_areStates_126 (by decide) (fun c_126 => ?_) (fun c_126 => ?_)
          · have h := br_T h c_126
            refine lv_bipush (v := 120) hx hb dL_areStates_134 (by decide) ?_
            exact wL_areStates_136 bx hP hK hk65 x2 x3 x5 x6 120 h _ (lv_sub hl [0, 1, 2, 3, 4, 5] rfl)
          · have h := br_F h c_126
            refine lv_bipush (v := 111) hx hb dL_areStates_129 (by decide) ?_
            refine lv_goto (tgt := 136) hx hb dL_areStates_131 (by decide) ?_
            exact wL_areStates_136 bx hP hK hk65 x2 x3 x5 x6 111 h _ (lv_sub hl [0, 1, 2, 3, 4, 5] rfl)
        · have h := br_F h c_111
          refine lv_bipush (v := 97) hx hb dL_areStates_114 (by decide) ?_
          refine lv_goto (tgt := 136) hx hb dL_areStates_116 (by decide) ?_
          exact wL_areStates_136 bx hP hK hk65 x2 x3 x5 x6 97 h _ (lv_sub hl [0, 1, 2, 3, 4, 5] rfl)
      · have h := br_F h c_97
        refine lv_bipush (v := 114) hx hb dL_areStates_100 (by decide) ?_
        refine lv_goto (tgt := 136) hx hb dL_areStates_102 (by decide) ?_
        exact wL_areStates_136 bx hP hK hk65 x2 x3 x5 x6 114 h _ (lv_sub hl [0, 1, 2, 3, 4, 5] rfl)
    · have h := br_F h c_81
      refine lv_bipush (v := 99) hx hb dL_areStates_84 (by decide) ?_
      refine lv_goto (tgt := 136) hx hb dL_areStates_86 (by decide) ?_
      exact wL_areStates_136 bx hP hK hk65 x2 x3 x5 x6 99 h _ (lv_sub hl [0, 1, 2, 3, 4, 5] rfl)

theorem wL_areStates_65 {p : Program} {l : Launch} {e : Env} {s : State} {m : MethodId} {args : Array Value} {below : List Frame} {meth : Method} {c : Code} {G : GT} {q : Nat → Nat} {C : St} {out : Int32} (bx : BX p RL wsL_areStates cL_areStates 8 (some .boolean) s m args meth c) (hP : va_P G.1 vwCl (LW G q C) s.heap) (hK : CK G s) :
    ∀ (n : Nat) (x2 : Int32) (x3 : Int64) (x5 : Int32) (x6 : Int32), pL_areStates_65 n C x2 x3 x5 x6 = some out → ∀ (ls : Array Slot), lv_has ls 8 [(0, .ref (q 0)), (1, .ref (q 20)), (2, .int x2), (3, .long x3), (5, .int x5), (6, .int x6)] → GoI p l e rmL_areStates s m args below meth c out (F0 m 65 ls []) := by
  intro n
  induction n with
  | zero => intro _ _ _ _ h; cases h
  | succ n ih => exact fun a0 a1 a2 a3 h ls hl => wL_areStates_65_b bx hP hK ih a0 a1 a2 a3 h ls hl

set_option maxHeartbeats 4000000 in
set_option maxRecDepth 100000 in
theorem wL_areStates_56 {p : Program} {l : Launch} {e : Env} {s : State} {m : MethodId} {args : Array Value} {below : List Frame} {meth : Method} {c : Code} {G : GT} {q : Nat → Nat} {C : St} {out : Int32} (bx : BX p RL wsL_areStates cL_areStates 8 (some .boolean) s m args meth c) (hP : va_P G.1 vwCl (LW G q C) s.heap) (hK : CK G s) {k10 : St → Int32 → Int64 → Int32 → Int32 → Option (Int32)} (hk10 : ∀ (x2 : Int32) (x3 : Int64) (x5 : Int32) (x6 : Int32), k10 C x2 x3 x5 x6 = some out → ∀ (ls : Array Slot), lv_has ls 8 [(0, .ref (q 0)), (1, .ref (q 20)), (2, .int x2), (3, .long x3), (5, .int x5), (6, .int x6)] → GoI p l e rmL_areStates s m args below meth c out (F0 m 10 ls [])) (x2 : Int32) (x3 : Int64) (x5 : Int32) (x6 : Int32) (h : pL_areStates_56 k10 C x2 x3 x5 x6 = some out) (ls : Array Slot) (hl : lv_has ls 8 [(0, .ref (q 0)), (1, .ref (q 20)), (2, .int x2), (3, .long x3), (5, .int x5), (6, .int x6)]) : GoI p l e rmL_areStates s m args below meth c out (F0 m 56 ls []) := by
  obtain ⟨hx, hb, hr, hts, hown, hml, hlocks⟩ := id bx
  unfold pL_areStates_56 at h
  obtain ⟨v_11, ev_11, h⟩ := ltv_ex h
  refine lv_iinc (v := v_11) (lv' := [(6, .int v_11), (0, .ref (q 0)), (1, .ref (q 20)), (2, .int x2), (3, .long x3), (5, .int x5)]) hx hb dL_areStates_56 hl (k := 5) rfl (by rw [ev_11]; rfl) (by decide) rfl (fun ls hl => ?_)
  refine lv_goto (tgt := 10) hx hb dL_areStates_59 (by decide) ?_
  exact hk10 x2 x3 x5 v_11 h _ (lv_sub hl [1, 2, 3, 4, 5, 0] rfl)

set_option maxHeartbeats 4000000 in
set_option maxRecDepth 100000 in
theorem wL_areStates_48 {p : Program} {l : Launch} {e : Env} {s : State} {m : MethodId} {args : Array Value} {below : List Frame} {meth : Method} {c : Code} {G : GT} {q : Nat → Nat} {C : St} {out : Int32} (bx : BX p RL wsL_areStates cL_areStates 8 (some .boolean) s m args meth c) (hP : va_P G.1 vwCl (LW G q C) s.heap) (hK : CK G s) {k10 : St → Int32 → Int64 → Int32 → Int32 → Option (Int32)} (hk10 : ∀ (x2 : Int32) (x3 : Int64) (x5 : Int32) (x6 : Int32), k10 C x2 x3 x5 x6 = some out → ∀ (ls : Array Slot), lv_has ls 8 [(0, .ref (q 0)), (1, .ref (q 20)), (2, .int x2), (3, .long x3), (5, .int x5), (6, .int x6)] → GoI p l e rmL_areStates s m args below meth c out (F0 m 10 ls [])) (x3 : Int64) (x5 : Int32) (x6 : Int32) (t0 : Int32) (h : pL_areStates_48 k10 C x3 x5 x6 t0 = some out) (ls : Array Slot) (hl : lv_has ls 8 [(0, .ref (q 0)), (1, .ref (q 20)), (3, .long x3), (5, .int x5), (6, .int x6)]) : GoI p l e rmL_areStates s m args below meth c out (F0 m 48 ls [.int t0]) := by
  obtain ⟨hx, hb, hr, hts, hown, hml, hlocks⟩ := id bx
  unfold pL_areStates_48 at h
  refine lv_istore_n (lv' := [(2, .int t0), (0, .ref (q 0)), (1, .ref (q 20)), (3, .long x3), (5, .int x5), (6, .int x6)]) hx hb dL_areStates_48 rfl hl (by decide) rfl (fun ls hl => ?_)
  refine lv_iload hx hb dL_areStates_49 (lv_at hl 4 rfl) ?_
  refine lv_iload hx hb dL_areStates_51 (lv_at hl 5 rfl) ?_
  refine lv_ior hx hb dL_areStates_53 ?_
  refine lv_topi (fun v_13 ev_13 => ?_)
  have h := ltv_at h v_13 ev_13
  refine lv_istore (lv' := [(5, .int v_13), (2, .int t0), (0, .ref (q 0)), (1, .ref (q 20)), (3, .long x3), (6, .int x6)]) hx hb dL_areStates_54 hl (by decide) rfl (fun ls hl => ?_)
  exact wL_areStates_56 bx hP hK hk10 t0 x3 v_13 x6 h _ (lv_sub hl [2, 3, 1, 4, 0, 5] rfl)

set_option maxHeartbeats 4000000 in
set_option maxRecDepth 100000 in
theorem wL_areStates_10_b {p : Program} {l : Launch} {e : Env} {s : State} {m : MethodId} {args : Array Value} {below : List Frame} {meth : Method} {c : Code} {G : GT} {q : Nat → Nat} {C : St} {out : Int32} (bx : BX p RL wsL_areStates cL_areStates 8 (some .boolean) s m args meth c) (hP : va_P G.1 vwCl (LW G q C) s.heap) (hK : CK G s) {k10 : St → Int32 → Int64 → Int32 → Int32 → Option (Int32)} (hk10 : ∀ (x2 : Int32) (x3 : Int64) (x5 : Int32) (x6 : Int32), k10 C x2 x3 x5 x6 = some out → ∀ (ls : Array Slot), lv_has ls 8 [(0, .ref (q 0)), (1, .ref (q 20)), (2, .int x2), (3, .long x3), (5, .int x5), (6, .int x6)] → GoI p l e rmL_areStates s m args below meth c out (F0 m 10 ls [])) (x2 : Int32) (x3 : Int64) (x5 : Int32) (x6 : Int32) (h : pL_areStates_10_b k10 C x2 x3 x5 x6 = some out) (ls : Array Slot) (hl : lv_has ls 8 [(0, .ref (q 0)), (1, .ref (q 20)), (2, .int x2), (3, .long x3), (5, .int x5), (6, .int x6)]) : GoI p l e rmL_areStates s m args below meth c out (F0 m 10 ls []) := by
  obtain ⟨hx, hb, hr, hts, hown, hml, hlocks⟩ := id bx
  unfold pL_areStates_10_b at h
  refine lv_iload hx hb dL_areStates_10 (lv_at hl 5 rfl) ?_
  refine lv_iconst (v := 1) hx hb dL_areStates_12 (by decide) ?_
  refine lv_aload_n hx hb dL_areStates_13 rfl (lv_at hl 1 rfl) ?_
  refine lv_iconst (v := 0) hx hb dL_areStates_14 (by decide) ?_
  obtain ⟨g15, h⟩ := gd_ex h
  refine va_iald (D := G.1) hx hb hK.1 hP 20 0 rfl rfl g15 dL_areStates_15 ?_
  refine lv_ishl hx hb dL_areStates_16 ?_
  refine lv_icmp_ge (tgt := 62) hx hb dL_areStates_17 (by decide) (fun c_17 => ?_) (fun c_17 => ?_)
  · have h := br_T h c_17
    refine lv_iconst (v := 0) hx hb dL_areStates_62 (by decide) ?_
    refine lv_istore (lv' := [(6, .int 0), (0, .ref (q 0)), (1, .ref (q 20)), (2, .int x2), (3, .long x3), (5, .int x5)]) hx hb dL_areStates_63 hl (by decide) rfl (fun ls hl => ?_)
    exact wL_areStates_65 bx hP hK FU x2 x3 x5 0 h _ (lv_sub hl [1, 2, 3, 4, 5, 0] rfl)
  · have h := br_F h c_17
    refine lv_aload_n hx hb dL_areStates_20 rfl (lv_at hl 1 rfl) ?_
    refine lv_iload hx hb dL_areStates_21 (lv_at hl 5 rfl) ?_
    obtain ⟨r_10, hr_10, h⟩ := bd_ex h
    refine ro_i (va_runS (As := [.ref (q 20), .int x6]) (rest := []) ⟨hx, hb, hml, hown, hts⟩ (kL_completes l G q C x6 r_10 hr_10) (va_cwS 2 hts gL_areStates_L_completes rfl rfl rfl (by decide +kernel) ⟨Nat.le_of_ble_eq_true rfl, Nat.le_of_ble_eq_true rfl⟩) (roS (hP.sub (ws' := NW G q C) [20] rfl) hK) rfl rfl hl.1 rfl (lv_room (Nat.le_of_ble_eq_true rfl)) dL_areStates_23 ⟨Nat.zero_le _, Nat.zero_le _⟩) ?_
    refine lv_if_eq (tgt := 56) hx hb dL_areStates_26 (by decide) (fun c_26 => ?_) (fun c_26 => ?_)
    · have h := br_T h c_26
      exact wL_areStates_56 bx hP hK hk10 x2 x3 x5 x6 h _ (lv_sub hl [0, 1, 2, 3, 4, 5] rfl)
    · have h := br_F h c_26
      refine lv_lload_n hx hb dL_areStates_29 rfl (lv_at hl 3 rfl) ?_
      refine lv_lconst (v := 1) hx hb dL_areStates_30 (by decide) ?_
      refine lv_ladd hx hb dL_areStates_31 ?_
      refine lv_topl (fun v_12 ev_12 => ?_)
      have h := ltv_at h v_12 ev_12
      refine lv_lstore_n (lv' := [(3, .long v_12), (0, .ref (q 0)), (1, .ref (q 20)), (2, .int x2), (5, .int x5), (6, .int x6)]) hx hb dL_areStates_32 rfl hl (by decide) rfl (fun ls hl => ?_)
      refine lv_lload_n hx hb dL_areStates_33 rfl (lv_at hl 0 rfl) ?_
      refine lv_lconst (v := 1) hx hb dL_areStates_34 (by decide) ?_
      refine W.lcmp hx hb dL_areStates_35 ?_
      refine lv_if_ne (tgt := 44) hx hb dL_areStates_36 (by decide) (fun c_36 => ?_) (fun c_36 => ?_)
      · have h := br_F h c_36
        refine lv_iload_n hx hb dL_areStates_44 rfl (lv_at hl 3 rfl) ?_
        refine lv_iload hx hb dL_areStates_45 (lv_at hl 5 rfl) ?_
        refine lv_iand hx hb dL_areStates_47 ?_
        exact wL_areStates_48 bx hP hK hk10 v_12 x5 x6 (x2 &&& x6) h _ (lv_sub hl [1, 2, 0, 4, 5] rfl)
      · have h := br_T h c_36
        refine lv_iload hx hb dL_areStates_39 (lv_at hl 5 rfl) ?_
        refine lv_goto (tgt := 48) hx hb dL_areStates_41 (by decide) ?_
        exact wL_areStates_48 bx hP hK hk10 v_12 x5 x6 x6 h _ (lv_sub hl [1, 2, 0, 4, 5] rfl)

theorem wL_areStates_10 {p : Program} {l : Launch} {e : Env} {s : State} {m : MethodId} {args : Array Value} {below : List Frame} {meth : Method} {c : Code} {G : GT} {q : Nat → Nat} {C : St} {out : Int32} (bx : BX p RL wsL_areStates cL_areStates 8 (some .boolean) s m args meth c) (hP : va_P G.1 vwCl (LW G q C) s.heap) (hK : CK G s) :
    ∀ (n : Nat) (x2 : Int32) (x3 : Int64) (x5 : Int32) (x6 : Int32), pL_areStates_10 n C x2 x3 x5 x6 = some out → ∀ (ls : Array Slot), lv_has ls 8 [(0, .ref (q 0)), (1, .ref (q 20)), (2, .int x2), (3, .long x3), (5, .int x5), (6, .int x6)] → GoI p l e rmL_areStates s m args below meth c out (F0 m 10 ls []) := by
  intro n
  induction n with
  | zero => intro _ _ _ _ h; cases h
  | succ n ih => exact fun a0 a1 a2 a3 h ls hl => wL_areStates_10_b bx hP hK ih a0 a1 a2 a3 h ls hl

set_option maxHeartbeats 4000000 in
set_option maxRecDepth 100000 in
theorem kL_areStates (l : Launch) (G : GT) (q : Nat → Nat) (C : St) (r : Int32) (h : pL_areStates C = some r) : Met l yL_areStates wsL_areStates rmL_areStates (va_Pc [.ref (q 0), .ref (q 20)] (roP G (LW G q C))) (vp_Si (fun v => v = r)) 0 0 (fun _ => False) := by
  refine Met.ofW (cc := cL_areStates) (maxL := 8) (ret := (some .boolean)) (by decide) rfl ?_
  intro p e s m args below meth c s₁ B hml hv
  obtain ⟨rfl, hP, hK⟩ := hv
  have bx := bx_of B hml
  obtain ⟨hx, hb, hr, hts, hown, hml, hlocks⟩ := id bx
  have hl := lv_entry ([.ref (q 0), .ref (q 20)]) (n := 8) (Nat.le_of_ble_eq_true rfl)
  rw [lg_entry_eq]
  generalize (lg_sl ([.ref (q 0), .ref (q 20)]) ++ List.replicate (8 - (lg_sl ([.ref (q 0), .ref (q 20)])).length) Slot.unset).toArray = ls at hl ⊢
  have hl : lv_has ls 8 [(0, .ref (q 0)), (1, .ref (q 20))] := hl
  show GoI p l e rmL_areStates s m _ below meth c r (F0 m 0 ls [])
  unfold pL_areStates at h
  refine lv_iconst (v := 0) hx hb dL_areStates_0 (by decide) ?_
  refine lv_istore_n (lv' := [(2, .int 0), (0, .ref (q 0)), (1, .ref (q 20))]) hx hb dL_areStates_1 rfl hl (by decide) rfl (fun ls hl => ?_)
  refine lv_lconst (v := 0) hx hb dL_areStates_2 (by decide) ?_
  refine lv_lstore_n (lv' := [(3, .long 0), (2, .int 0), (0, .ref (q 0)), (1, .ref (q 20))]) hx hb dL_areStates_3 rfl hl (by decide) rfl (fun ls hl => ?_)
  refine lv_iconst (v := 0) hx hb dL_areStates_4 (by decide) ?_
  refine lv_istore (lv' := [(5, .int 0), (3, .long 0), (2, .int 0), (0, .ref (q 0)), (1, .ref (q 20))]) hx hb dL_areStates_5 hl (by decide) rfl (fun ls hl => ?_)
  refine lv_iconst (v := 0) hx hb dL_areStates_7 (by decide) ?_
  refine lv_istore (lv' := [(6, .int 0), (5, .int 0), (3, .long 0), (2, .int 0), (0, .ref (q 0)), (1, .ref (q 20))]) hx hb dL_areStates_8 hl (by decide) rfl (fun ls hl => ?_)
  exact wL_areStates_10 bx hP hK FU 0 0 0 0 h _ (lv_sub hl [4, 5, 3, 2, 1, 0] rfl)
