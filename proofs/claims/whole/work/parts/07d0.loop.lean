/-! ===== the law's loop: its world, what holds all the way ===== -/
def LA (s : State) : Nat → Prop := fun q => s.heap.size ≤ q
def LW (G : GT) (qm q : Nat → Nat) (qo : Nat) (M C : St) (o : Nat → Int64) : va_W := MW G qm M ++ (CW G q C ++ OW G qo o)
theorem LW_x {G : GT} {qm q : Nat → Nat} {qo : Nat} {M C : St} {o : Nat → Int64} : LW G qm q qo M C o = MW G qm M ++ (XW G q qo (C, o) ++ []) := by
  unfold LW XW
  rw [List.append_nil]
def LE (p : Program) (l : Launch) (s : State) (m : MethodId) (meth : Method) (c : Code) (b L : Nat) (xs : Nat → Int32) (G : GT) : Prop :=
  BX p RL wsL_law cL_law 9 ret s m #[.ref b] meth c ∧ l.stackTraces = false ∧ CK G s ∧ XE (LA s) s ∧ ZS (LA s) s s.heap ∧ va_X b L xs s s.heap ∧ b < s.heap.size ∧ L ≤ 2048
abbrev lwL (b qm0 q0 qo t : Nat) : List (Nat × Value) := [(4, .int (nI (4 * t))), (3, .ref qo), (2, .ref qm0), (1, .ref q0), (0, .ref b)]
/-- the next turn of the loop -/
def LN (p : Program) (l : Launch) (e : Env) (s : State) (m : MethodId) (below : List Frame) (meth : Method) (c : Code) (b : Nat) (G : GT) (qm q : Nat → Nat) (qo t cells slots : Nat) (Q : State → Prop) : Prop :=
  ∀ (C M : St) (o : Nat → Int64) (H : Heap) (locs : List Loc) (ls : Array Slot), Inv C M → va_P G.1 vwCl (LW G qm q qo M C o) H → va_D (LA s) (LW G qm q qo M C o) → va_S (LA s) s.heap H locs → lv_has ls 9 (lwL b (qm 0) (q 0) qo t) → W p l e room_1 s m #[.ref b] below meth c H locs (cells + 60) (slots + 4000) Q (F0 m 2033 ls [])
section LCalls
variable {p : Program} {l : Launch} {e : Env} {s : State} {m : MethodId} {args : Array Value} {below : List Frame} {meth : Method} {c : Code} {H : Heap} {locs : List Loc} {cells slots mc ms : Nat} {Q : State → Prop} {R : Room}
variable {pc : Nat} {ls : Array Slot} {rest st0 : List Value} {a : Array Value} {G : GT} {qm q : Nat → Nat} {qo : Nat} {M C : St} {o : Nat → Int64}
theorem lw_hA : ∀ q : Nat, s.heap.size ≤ q → LA s q := fun _ h => h
theorem lw_x {out : Int32 × (St × (Nat → Int64))} (hr : va_Run p l e R s m args below meth c H locs cells slots mc ms (F0 m pc ls st0) rest (va_Qi (fun r u => (r, u) = out) (fun u t => va_P G.1 vwCl (XW G q qo u) t.heap) (va_A (XW G q qo (C, o)) H.size) a) (va_A (XW G q qo (C, o)) H.size))
    (hP : va_P G.1 vwCl (LW G qm q qo M C o) H) (hD : va_D (LA s) (LW G qm q qo M C o)) (hS : va_S (LA s) s.heap H locs)
    (kk : ∀ (H : Heap) (locs : List Loc), va_P G.1 vwCl (LW G qm q qo M out.2.1 out.2.2) H → va_D (LA s) (LW G qm q qo M out.2.1 out.2.2) → va_S (LA s) s.heap H locs → W p l e R s m args below meth c H locs (cells + mc) (slots + ms) Q (F0 m (pc + 3) ls (.int out.1 :: rest))) : W p l e R s m args below meth c H locs cells slots Q (F0 m pc ls st0) := by
  rw [LW_x] at hP hD
  refine wf_i (Wd := XW G q qo) (MW G qm M) [] hr hP hD hS lw_hA (fun _ => rfl) (fun H locs hP hD hS => ?_)
  exact kk H locs (by rw [LW_x]; exact hP) (by rw [LW_x]; exact hD) hS
theorem lm_i {out : Int32 × St} (hr : va_Run p l e R s m args below meth c H locs cells slots mc ms (F0 m pc ls st0) rest (va_Qi (fun r u => (r, u) = out) (fun u t => va_P G.1 vwCl (MW G qm u) t.heap) (va_A (MW G qm M) H.size) a) (va_A (MW G qm M) H.size))
    (hP : va_P G.1 vwCl (LW G qm q qo M C o) H) (hD : va_D (LA s) (LW G qm q qo M C o)) (hS : va_S (LA s) s.heap H locs)
    (kk : ∀ (H : Heap) (locs : List Loc), va_P G.1 vwCl (LW G qm q qo out.2 C o) H → va_D (LA s) (LW G qm q qo out.2 C o) → va_S (LA s) s.heap H locs → W p l e R s m args below meth c H locs (cells + mc) (slots + ms) Q (F0 m (pc + 3) ls (.int out.1 :: rest))) : W p l e R s m args below meth c H locs cells slots Q (F0 m pc ls st0) :=
  wf_i (Wd := MW G qm) [] (CW G q C ++ OW G qo o) hr hP hD hS lw_hA (fun _ => rfl) (fun H locs hP hD hS => kk H locs hP hD hS)
theorem lm_l {out : Int64 × St} (hr : va_Run p l e R s m args below meth c H locs cells slots mc ms (F0 m pc ls st0) rest (va_Ql (fun r u => (r, u) = out) (fun u t => va_P G.1 vwCl (MW G qm u) t.heap) (va_A (MW G qm M) H.size) a) (va_A (MW G qm M) H.size))
    (hP : va_P G.1 vwCl (LW G qm q qo M C o) H) (hD : va_D (LA s) (LW G qm q qo M C o)) (hS : va_S (LA s) s.heap H locs)
    (kk : ∀ (H : Heap) (locs : List Loc), va_P G.1 vwCl (LW G qm q qo out.2 C o) H → va_D (LA s) (LW G qm q qo out.2 C o) → va_S (LA s) s.heap H locs → W p l e R s m args below meth c H locs (cells + mc) (slots + ms) Q (F0 m (pc + 3) ls (.long out.1 :: rest))) : W p l e R s m args below meth c H locs cells slots Q (F0 m pc ls st0) :=
  wf_l (Wd := MW G qm) [] (CW G q C ++ OW G qo o) hr hP hD hS lw_hA (fun _ => rfl) (fun H locs hP hD hS => kk H locs hP hD hS)
theorem lm_f {out : UInt32 × St} (hr : va_Run p l e R s m args below meth c H locs cells slots mc ms (F0 m pc ls st0) rest (va_Qf (fun r u => (r, u) = out) (fun u t => va_P G.1 vwCl (MW G qm u) t.heap) (va_A (MW G qm M) H.size) a) (va_A (MW G qm M) H.size))
    (hP : va_P G.1 vwCl (LW G qm q qo M C o) H) (hD : va_D (LA s) (LW G qm q qo M C o)) (hS : va_S (LA s) s.heap H locs)
    (kk : ∀ (H : Heap) (locs : List Loc), va_P G.1 vwCl (LW G qm q qo out.2 C o) H → va_D (LA s) (LW G qm q qo out.2 C o) → va_S (LA s) s.heap H locs → W p l e R s m args below meth c H locs (cells + mc) (slots + ms) Q (F0 m (pc + 3) ls (.float out.1 :: rest))) : W p l e R s m args below meth c H locs cells slots Q (F0 m pc ls st0) :=
  wf_f (Wd := MW G qm) [] (CW G q C ++ OW G qo o) hr hP hD hS lw_hA (fun _ => rfl) (fun H locs hP hD hS => kk H locs hP hD hS)
theorem lm_d {out : UInt64 × St} (hr : va_Run p l e R s m args below meth c H locs cells slots mc ms (F0 m pc ls st0) rest (va_Qd (fun r u => (r, u) = out) (fun u t => va_P G.1 vwCl (MW G qm u) t.heap) (va_A (MW G qm M) H.size) a) (va_A (MW G qm M) H.size))
    (hP : va_P G.1 vwCl (LW G qm q qo M C o) H) (hD : va_D (LA s) (LW G qm q qo M C o)) (hS : va_S (LA s) s.heap H locs)
    (kk : ∀ (H : Heap) (locs : List Loc), va_P G.1 vwCl (LW G qm q qo out.2 C o) H → va_D (LA s) (LW G qm q qo out.2 C o) → va_S (LA s) s.heap H locs → W p l e R s m args below meth c H locs (cells + mc) (slots + ms) Q (F0 m (pc + 3) ls (.double out.1 :: rest))) : W p l e R s m args below meth c H locs cells slots Q (F0 m pc ls st0) :=
  wf_d (Wd := MW G qm) [] (CW G q C ++ OW G qo o) hr hP hD hS lw_hA (fun _ => rfl) (fun H locs hP hD hS => kk H locs hP hD hS)
theorem lc_i {out : Int32 × St} (hr : va_Run p l e R s m args below meth c H locs cells slots mc ms (F0 m pc ls st0) rest (va_Qi (fun r u => (r, u) = out) (fun u t => va_P G.1 vwCl (CW G q u) t.heap) (va_A (CW G q C) H.size) a) (va_A (CW G q C) H.size))
    (hP : va_P G.1 vwCl (LW G qm q qo M C o) H) (hD : va_D (LA s) (LW G qm q qo M C o)) (hS : va_S (LA s) s.heap H locs)
    (kk : ∀ (H : Heap) (locs : List Loc), va_P G.1 vwCl (LW G qm q qo M out.2 o) H → va_D (LA s) (LW G qm q qo M out.2 o) → va_S (LA s) s.heap H locs → W p l e R s m args below meth c H locs (cells + mc) (slots + ms) Q (F0 m (pc + 3) ls (.int out.1 :: rest))) : W p l e R s m args below meth c H locs cells slots Q (F0 m pc ls st0) :=
  wf_i (Wd := CW G q) (MW G qm M) (OW G qo o) hr hP hD hS lw_hA (fun _ => rfl) (fun H locs hP hD hS => kk H locs hP hD hS)
theorem lc_f {out : UInt32 × St} (hr : va_Run p l e R s m args below meth c H locs cells slots mc ms (F0 m pc ls st0) rest (va_Qf (fun r u => (r, u) = out) (fun u t => va_P G.1 vwCl (CW G q u) t.heap) (va_A (CW G q C) H.size) a) (va_A (CW G q C) H.size))
    (hP : va_P G.1 vwCl (LW G qm q qo M C o) H) (hD : va_D (LA s) (LW G qm q qo M C o)) (hS : va_S (LA s) s.heap H locs)
    (kk : ∀ (H : Heap) (locs : List Loc), va_P G.1 vwCl (LW G qm q qo M out.2 o) H → va_D (LA s) (LW G qm q qo M out.2 o) → va_S (LA s) s.heap H locs → W p l e R s m args below meth c H locs (cells + mc) (slots + ms) Q (F0 m (pc + 3) ls (.float out.1 :: rest))) : W p l e R s m args below meth c H locs cells slots Q (F0 m pc ls st0) :=
  wf_f (Wd := CW G q) (MW G qm M) (OW G qo o) hr hP hD hS lw_hA (fun _ => rfl) (fun H locs hP hD hS => kk H locs hP hD hS)
theorem lw_PM (hP : va_P G.1 vwCl (LW G qm q qo M C o) H) : va_P G.1 vwCl (MW G qm M) H := fr_mid [] (CW G q C ++ OW G qo o) hP
theorem lw_DM {A : Nat → Prop} (hD : va_D A (LW G qm q qo M C o)) : va_D A (MW G qm M) := fr_midD [] (CW G q C ++ OW G qo o) hD
theorem lw_PC (hP : va_P G.1 vwCl (LW G qm q qo M C o) H) : va_P G.1 vwCl (CW G q C) H := fr_mid (MW G qm M) (OW G qo o) hP
theorem lw_DC {A : Nat → Prop} (hD : va_D A (LW G qm q qo M C o)) : va_D A (CW G q C) := fr_midD (MW G qm M) (OW G qo o) hD
theorem lw_PX (hP : va_P G.1 vwCl (LW G qm q qo M C o) H) : va_P G.1 vwCl (XW G q qo (C, o)) H := by
  rw [LW_x] at hP
  exact fr_mid (MW G qm M) [] hP
theorem lw_DX {A : Nat → Prop} (hD : va_D A (LW G qm q qo M C o)) : va_D A (XW G q qo (C, o)) := by
  rw [LW_x] at hD
  exact fr_midD (MW G qm M) [] hD
end LCalls
theorem agW {cd : Nat → Nat} {rc : Option ((Nat × St) ⊕ (Int32 × St))} {rm : Option (Int32 × St)} (h : Agr cd rc rm) (hc : ∀ k, cd k ≤ 4) (f : Int32 → Int64) (o : Nat → Int64) : ∃ k b M' C' o', lresW rc cd (fun r => (f r.1, r.2)) o = some (k, (C', o')) ∧ rm = some (b, M') ∧ Inv C' M' ∧ M'.1 7 = k ∧ (k = 0 → o' 0 = f b) := by
  obtain ⟨b, M', C', h1, h2, h3⟩ := h
  rcases h3 with ⟨k, q1, q2, q3⟩ | ⟨q1, q2⟩
  · exact ⟨nI (cd k), b, M', C', o, by subst q1; exact if_neg q2, h1, h2, q3, fun z => absurd ((nI0 (Nat.lt_of_le_of_lt (hc k) (by decide))).mp z) q2⟩
  · exact ⟨0, b, M', C', vp_updL o 0 (f b), by subst q1; rfl, h1, h2, q2, fun _ => rfl⟩
theorem agR {cd : Nat → Nat} {rc : Option (Nat ⊕ Int32)} {C : St} {rm : Option (Int32 × St)} (h : AgrR cd rc C rm) (hc : ∀ k, cd k ≤ 4) (f : Int32 → Int64) (o : Nat → Int64) : ∃ k b M' C' o', lresR rc C cd f o = some (k, (C', o')) ∧ rm = some (b, M') ∧ Inv C' M' ∧ M'.1 7 = k ∧ (k = 0 → o' 0 = f b) := by
  obtain ⟨b, M', h1, h2, h3⟩ := h
  rcases h3 with ⟨k, q1, q2, q3⟩ | ⟨q1, q2⟩
  · exact ⟨nI (cd k), b, M', C, o, by subst q1; exact if_neg q2, h1, h2, q3, fun z => absurd ((nI0 (Nat.lt_of_le_of_lt (hc k) (by decide))).mp z) q2⟩
  · exact ⟨0, b, M', C, vp_updL o 0 (f b), by subst q1; rfl, h1, h2, q2, fun _ => rfl⟩
theorem lcmp0 (x : Int64) : lg_cmp x x = 0 := by
  unfold lg_cmp
  rw [if_neg (show ¬ x > x from fun h => by have := Int64.lt_iff_toInt_lt.mp h; omega), if_pos rfl]
theorem share_okd : ∀ n, n < 12 → ∀ k, k < 13 → okN64 (FP.f2d (FP.fdiv (FP.i2f (nI (n + 1) - (nI (n + 1) - nI k))) (FP.i2f (nI (n + 1))))) := by decide +kernel
theorem aShareV {D : Dt} {i o : Nat} {C M : St} (hI : InvD D i o C M) : ∃ v C' M', pX6_knownShare C = some (v, C') ∧ pX7_knownShare M = some (v, M') ∧ Inv C' M' ∧ vf_n64 (FP.f2d v) := by
  have hI0 := hI
  obtain ⟨w, ⟨hi, ho⟩, hex, hC, hM⟩ := hI
  obtain ⟨n1, n2⟩ := w.n
  obtain ⟨M', Km, m1, m2, m3, m4⟩ := mShare hM w hi ho
  obtain ⟨C', Kc, c1, c2, c3⟩ := cShare hC w hi ho
  have e := Fin_uniq c2 m2
  subst e
  have hp := pop_le (Kc.1.1 ||| Kc.1.2)
  have := share_okd (D 0 0 - 1) (by omega) (pop (Kc.1.1 ||| Kc.1.2)) (by omega)
  rw [show D 0 0 - 1 + 1 = D 0 0 by omega] at this
  exact ⟨shV D Kc, C', M', c1, m1, ((hI0.c c3).m m3).inv, this⟩
theorem agLine {C C' E : St} {x ch : Int32} {b : Bool} (hw : pX6_lineAt C x = (if b then some (.inr (ch, C')) else some (.inl (1, C')))) (o : Nat → Int64) : ∃ k o', pL_lineAt C o x = some (k, (C', o')) ∧ (sS E 7 (if b then 0 else 1)).1 7 = k ∧ (k = 0 → o' 0 = Int32.toInt64 (if b then ch else 45)) := by
  cases b with
  | true => exact ⟨0, vp_updL o 0 (Int32.toInt64 ch), by unfold pL_lineAt; rw [hw]; rfl, sS_eq, fun _ => rfl⟩
  | false => exact ⟨1, o, by unfold pL_lineAt; rw [hw]; rfl, sS_eq, fun z => absurd z (by decide)⟩
