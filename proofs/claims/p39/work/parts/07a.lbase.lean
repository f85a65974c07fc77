/-! ===== a call that has a part of the world for its own ===== -/
theorem va_P_iff {D : va_G} {cl : List vw_C} {ws : va_W} {H : Heap} : va_P D cl ws H ↔ ∀ q ∈ ws, va_at D cl q H := by
  constructor
  · intro h q hq
    obtain ⟨k, hk⟩ := List.getElem?_of_mem hq
    exact h k q hk
  · intro h k q hk
    exact h q (List.mem_of_getElem? hk)
theorem fr_mid {D : va_G} {cl : List vw_C} {H : Heap} (L1 : va_W) {W0 : va_W} (L2 : va_W) (h : va_P D cl (L1 ++ (W0 ++ L2)) H) : va_P D cl W0 H :=
  va_P_iff.mpr fun q hq => va_P_iff.mp h q (List.mem_append_right _ (List.mem_append_left _ hq))
theorem fr_ix (L1 : va_W) {W0 : va_W} (L2 : va_W) {k : Nat} {q : Nat × va_E} (h : W0[k]? = some q) : (L1 ++ (W0 ++ L2))[L1.length + k]? = some q := by
  rw [List.getElem?_append_right (by omega), Nat.add_sub_cancel_left, List.getElem?_append_left (List.getElem?_eq_some_iff.mp h).1]
  exact h
theorem fr_midD {A : Nat → Prop} (L1 : va_W) {W0 : va_W} (L2 : va_W) (h : va_D A (L1 ++ (W0 ++ L2))) : va_D A W0 := by
  refine ⟨fun i j p q hi hj e => ?_, fun k q hk => h.2 _ q (fr_ix L1 L2 hk)⟩
  have := h.1 _ _ p q (fr_ix L1 L2 hi) (fr_ix L1 L2 hj) e
  omega
theorem fr_out {A : Nat → Prop} {D : va_G} {cl : List vw_C} {H : Heap} (L1 : va_W) {W0 : va_W} (L2 : va_W) (hP : va_P D cl (L1 ++ (W0 ++ L2)) H) (hD : va_D A (L1 ++ (W0 ++ L2))) {q : Nat × va_E} (hq : q ∈ L1 ∨ q ∈ L2) : q.1 < H.size ∧ ¬ va_A W0 H.size q.1 := by
  have hm : q ∈ L1 ++ (W0 ++ L2) := hq.elim (fun h => List.mem_append_left _ h) (fun h => List.mem_append_right _ (List.mem_append_right _ h))
  have hl := (va_P_iff.mp hP q hm).lt
  refine ⟨hl, fun h => ?_⟩
  rcases h with ⟨k, e, hk⟩ | h
  · have h1 := fr_ix L1 L2 hk
    have hkl : k < W0.length := (List.getElem?_eq_some_iff.mp hk).1
    rcases hq with hq | hq
    · obtain ⟨j, hj⟩ := List.getElem?_of_mem hq
      have hjl : j < L1.length := (List.getElem?_eq_some_iff.mp hj).1
      have h2 : (L1 ++ (W0 ++ L2))[j]? = some q := by rw [List.getElem?_append_left hjl]; exact hj
      have := hD.1 _ _ _ _ h2 h1 rfl
      omega
    · obtain ⟨j, hj⟩ := List.getElem?_of_mem hq
      have h2 : (L1 ++ (W0 ++ L2))[L1.length + (W0.length + j)]? = some q := by
        rw [List.getElem?_append_right (by omega), Nat.add_sub_cancel_left, List.getElem?_append_right (by omega), Nat.add_sub_cancel_left]; exact hj
      have := hD.1 _ _ _ _ h2 h1 rfl
      omega
  · omega
theorem fr_back {A : Nat → Prop} {D : va_G} {cl : List vw_C} {H H1 : Heap} (L1 : va_W) {W0 W1 : va_W} (L2 : va_W) (hP : va_P D cl (L1 ++ (W0 ++ L2)) H) (hD : va_D A (L1 ++ (W0 ++ L2))) (hk : ∀ q : Nat, q < H.size → ¬ va_A W0 H.size q → H1[q]? = H[q]?) (h1 : va_P D cl W1 H1) : va_P D cl (L1 ++ (W1 ++ L2)) H1 := by
  refine va_P_iff.mpr fun q hq => ?_
  have old : (q ∈ L1 ∨ q ∈ L2) → va_at D cl q H1 := fun hm => by
    obtain ⟨g1, g2⟩ := fr_out L1 L2 hP hD hm
    have hm' : q ∈ L1 ++ (W0 ++ L2) := hm.elim (fun h => List.mem_append_left _ h) (fun h => List.mem_append_right _ (List.mem_append_right _ h))
    exact (va_P_iff.mp hP q hm').kept (hk q.1 g1 g2)
  rcases List.mem_append.mp hq with h | h
  · exact old (Or.inl h)
  · rcases List.mem_append.mp h with h | h
    · exact va_P_iff.mp h1 q h
    · exact old (Or.inr h)
theorem fr_same {A : Nat → Prop} (L1 : va_W) {W0 W1 : va_W} (L2 : va_W) (hD : va_D A (L1 ++ (W0 ++ L2))) (e : W1.map (·.1) = W0.map (·.1)) : va_D A (L1 ++ (W1 ++ L2)) := hD.same (by simp only [List.map_append, e])
section WF_
variable {p : Program} {l : Launch} {e : Env} {R : Room} {s : State} {m : MethodId} {args : Array Value} {below : List Frame} {meth : Method} {c : Code} {H : Heap} {locs : List Loc} {cells slots mc ms : Nat} {Q : State → Prop}
variable {pc : Nat} {ls : Array Slot} {rest st0 : List Value} {a : Array Value} {G : GT} {A : Nat → Prop} {W0 : va_W} {S : Type} {Wd : S → va_W}
theorem wf_i (L1 L2 : va_W) {out : Int32 × S} (hr : va_Run p l e R s m args below meth c H locs cells slots mc ms (F0 m pc ls st0) rest (va_Qi (fun r u => (r, u) = out) (fun u t => va_P G.1 vwCl (Wd u) t.heap) (va_A W0 H.size) a) (va_A W0 H.size))
    (hP : va_P G.1 vwCl (L1 ++ (W0 ++ L2)) H) (hD : va_D A (L1 ++ (W0 ++ L2))) (hS : va_S A s.heap H locs) (hA : ∀ q, s.heap.size ≤ q → A q) (hf : ∀ u, (Wd u).map (·.1) = W0.map (·.1))
    (kk : ∀ (H : Heap) (locs : List Loc), va_P G.1 vwCl (L1 ++ (Wd out.2 ++ L2)) H → va_D A (L1 ++ (Wd out.2 ++ L2)) → va_S A s.heap H locs → W p l e R s m args below meth c H locs (cells + mc) (slots + ms) Q (F0 m (pc + 3) ls (.int out.1 :: rest))) : W p l e R s m args below meth c H locs cells slots Q (F0 m pc ls st0) := by
  have hF := va_A_in (fr_midD L1 L2 hD) hS hA
  refine va_calli hr hS (fun q _ h => hF q h) hF (fun r u t H1 locs1 ht hvm hw hB hz hk hS1 => ?_)
  subst hw
  rw [ht] at hB
  exact kk H1 locs1 (fr_back L1 L2 hP hD hk hB) (fr_same L1 L2 hD (hf u)) hS1
theorem wf_l (L1 L2 : va_W) {out : Int64 × S} (hr : va_Run p l e R s m args below meth c H locs cells slots mc ms (F0 m pc ls st0) rest (va_Ql (fun r u => (r, u) = out) (fun u t => va_P G.1 vwCl (Wd u) t.heap) (va_A W0 H.size) a) (va_A W0 H.size))
    (hP : va_P G.1 vwCl (L1 ++ (W0 ++ L2)) H) (hD : va_D A (L1 ++ (W0 ++ L2))) (hS : va_S A s.heap H locs) (hA : ∀ q, s.heap.size ≤ q → A q) (hf : ∀ u, (Wd u).map (·.1) = W0.map (·.1))
    (kk : ∀ (H : Heap) (locs : List Loc), va_P G.1 vwCl (L1 ++ (Wd out.2 ++ L2)) H → va_D A (L1 ++ (Wd out.2 ++ L2)) → va_S A s.heap H locs → W p l e R s m args below meth c H locs (cells + mc) (slots + ms) Q (F0 m (pc + 3) ls (.long out.1 :: rest))) : W p l e R s m args below meth c H locs cells slots Q (F0 m pc ls st0) := by
  have hF := va_A_in (fr_midD L1 L2 hD) hS hA
  refine va_calll hr hS (fun q _ h => hF q h) hF (fun r u t H1 locs1 ht hvm hw hB hz hk hS1 => ?_)
  subst hw
  rw [ht] at hB
  exact kk H1 locs1 (fr_back L1 L2 hP hD hk hB) (fr_same L1 L2 hD (hf u)) hS1
theorem wf_f (L1 L2 : va_W) {out : UInt32 × S} (hr : va_Run p l e R s m args below meth c H locs cells slots mc ms (F0 m pc ls st0) rest (va_Qf (fun r u => (r, u) = out) (fun u t => va_P G.1 vwCl (Wd u) t.heap) (va_A W0 H.size) a) (va_A W0 H.size))
    (hP : va_P G.1 vwCl (L1 ++ (W0 ++ L2)) H) (hD : va_D A (L1 ++ (W0 ++ L2))) (hS : va_S A s.heap H locs) (hA : ∀ q, s.heap.size ≤ q → A q) (hf : ∀ u, (Wd u).map (·.1) = W0.map (·.1))
    (kk : ∀ (H : Heap) (locs : List Loc), va_P G.1 vwCl (L1 ++ (Wd out.2 ++ L2)) H → va_D A (L1 ++ (Wd out.2 ++ L2)) → va_S A s.heap H locs → W p l e R s m args below meth c H locs (cells + mc) (slots + ms) Q (F0 m (pc + 3) ls (.float out.1 :: rest))) : W p l e R s m args below meth c H locs cells slots Q (F0 m pc ls st0) := by
  have hF := va_A_in (fr_midD L1 L2 hD) hS hA
  refine va_callf hr hS (fun q _ h => hF q h) hF (fun r u t H1 locs1 ht hvm hw hB hz hk hS1 => ?_)
  subst hw
  rw [ht] at hB
  exact kk H1 locs1 (fr_back L1 L2 hP hD hk hB) (fr_same L1 L2 hD (hf u)) hS1
theorem wf_d (L1 L2 : va_W) {out : UInt64 × S} (hr : va_Run p l e R s m args below meth c H locs cells slots mc ms (F0 m pc ls st0) rest (va_Qd (fun r u => (r, u) = out) (fun u t => va_P G.1 vwCl (Wd u) t.heap) (va_A W0 H.size) a) (va_A W0 H.size))
    (hP : va_P G.1 vwCl (L1 ++ (W0 ++ L2)) H) (hD : va_D A (L1 ++ (W0 ++ L2))) (hS : va_S A s.heap H locs) (hA : ∀ q, s.heap.size ≤ q → A q) (hf : ∀ u, (Wd u).map (·.1) = W0.map (·.1))
    (kk : ∀ (H : Heap) (locs : List Loc), va_P G.1 vwCl (L1 ++ (Wd out.2 ++ L2)) H → va_D A (L1 ++ (Wd out.2 ++ L2)) → va_S A s.heap H locs → W p l e R s m args below meth c H locs (cells + mc) (slots + ms) Q (F0 m (pc + 3) ls (.double out.1 :: rest))) : W p l e R s m args below meth c H locs cells slots Q (F0 m pc ls st0) := by
  have hF := va_A_in (fr_midD L1 L2 hD) hS hA
  refine va_calld hr hS (fun q _ h => hF q h) hF (fun r u t H1 locs1 ht hvm hw hB hz hk hS1 => ?_)
  subst hw
  rw [ht] at hB
  exact kk H1 locs1 (fr_back L1 L2 hP hD hk hB) (fr_same L1 L2 hD (hf u)) hS1
/-- a call that throws -/
theorem x_call (L1 L2 : va_W) {Wd : St → va_W} {e' : Nat × St} (hr : vx_Run p l e R s m args below meth c H locs cells slots 1 6 (F0 m pc ls st0) rest (fun _ _ _ => False) (XCf G Wd (va_A W0 H.size) e') (va_A W0 H.size))
    (hP : va_P G.1 vwCl (L1 ++ (W0 ++ L2)) H) (hD : va_D A (L1 ++ (W0 ++ L2))) (hS : va_S A s.heap H locs) (hA : ∀ q, s.heap.size ≤ q → A q) (hf : ∀ u, (Wd u).map (·.1) = W0.map (·.1))
    (kk : ∀ (ce : Cell) (q9 : Addr) (H : Heap) (locs : List Loc), va_P G.1 vwCl (L1 ++ (Wd e'.2 ++ L2)) H → va_D A (L1 ++ (Wd e'.2 ++ L2)) → va_S A s.heap H locs → H[q9]? = some ce → ce.vm = .none → s.vm.findClass (exN e'.1) = some ce.cls → vx_W p l e R s m args below meth c H locs (cells + 1) (slots + 6) Q (F0 m pc ls rest) q9) : W p l e R s m args below meth c H locs cells slots Q (F0 m pc ls st0) := by
  have hF := va_A_in (fr_midD L1 L2 hD) hS hA
  intro T hT X
  rcases hr T hT X with ⟨v, st₀, t, T', L, h0, X', hL, e1, e2, hF, st⟩ | ⟨q, st₀, t, T', L, E, ce, h0, X', hL, e1, e2, hx, hce, hcv, hcl, st⟩
  · exact hF.elim
  · obtain ⟨u, rfl, ⟨rfl, hPt⟩, hFr⟩ := hx
    obtain ⟨k1, k2, k3⟩ := vx_keep h0 e1 hS (fun q _ h => hF q h) hF hL hFr
    rw [← e1] at hPt hce
    obtain ⟨t2, a1, b1⟩ := kk ce q T'.heap (locs ++ L) (fr_back L1 L2 hP hD k2 hPt) (fr_same L1 L2 hD (hf _)) k3 hce hcv hcl T' rfl X'
    exact ⟨t2, st.trans a1, b1⟩
end WF_
/-! ===== p39: the law's numbers beside the class's: row 14 is the law's own, row 15 its copy ===== -/
def NW (G : GT) (q : Nat → Nat) (C : St) : va_W := [(q 20, .inl (G.2 0, 250, .inl (C.2 14)))]
def NL (G : GT) (q : Nat → Nat) (C : St) : va_W := [(q 20, .inl (G.2 0, 250, .inl (C.2 14)))]
def NL2 (G : GT) (q : Nat → Nat) (C : St) : va_W := [(q 20, .inl (G.2 0, 250, .inl (C.2 14))), (q 21, .inl (G.2 0, 250, .inl (C.2 15)))]
def LW (G : GT) (q : Nat → Nat) (C : St) : va_W := CW G q C ++ NL G q C
def LX (G : GT) (q : Nat → Nat) (C : St) : va_W := CW G q C ++ NL2 G q C
theorem LW_mg {G : GT} {q : Nat → Nat} {u C : St} : LW G q (mg u C) = [] ++ (CW G q u ++ NL G q C) := rfl
theorem LX_mg {G : GT} {q : Nat → Nat} {u C : St} : LX G q (mg u C) = [] ++ (CW G q u ++ NL2 G q C) := rfl
theorem LW_q {G : GT} {q q1 : Nat → Nat} (h : ∀ k, k < 21 → q1 k = q k) : LW G q1 = LW G q := by
  funext C
  unfold LW CW NL
  simp only [h 0 (by decide), h 1 (by decide), h 2 (by decide), h 3 (by decide), h 4 (by decide), h 5 (by decide), h 6 (by decide), h 7 (by decide), h 8 (by decide), h 9 (by decide), h 10 (by decide), h 11 (by decide), h 12 (by decide), h 13 (by decide), h 14 (by decide), h 15 (by decide), h 16 (by decide), h 17 (by decide), h 18 (by decide), h 19 (by decide), h 20 (by decide)]
/-! the script, which is only read -/
def scP (b : Nat) (T : SC) (U : State) : Prop := va_X b T.1 T.2 U U.heap ∧ b < U.heap.size
theorem scP_blind {b : Nat} {T : SC} {av : List Value} : FrameBlind (va_Pc av (scP b T)) := fun _ U g mk q => ⟨q.1, va_X.moved (u := U) (U := U.calling g mk _) (Vm.Alike.refl U.vm) q.2.1, q.2.2⟩
theorem scS {s : State} {H : Heap} {locs : List Loc} {A : Nat → Prop} {b : Nat} {T : SC} (hX : va_X b T.1 T.2 s s.heap) (hbl : b < s.heap.size) (hbA : ¬ A b) (hS : va_S A s.heap H locs) {As : List Value} : PreS s H (va_Pc As (scP b T)) As :=
  ⟨scP_blind, fun U hU hW => ⟨rfl, by rw [hU]; exact va_X.moved hW.alike (hX.kept (hS.2.1 b hbl hbA)), by rw [hU]; exact Nat.lt_of_lt_of_le hbl hS.1⟩⟩
def xsP (G : GT) (W : va_W) (sz b : Nat) (T : SC) (U : State) : Prop := xP G W sz U ∧ va_X b T.1 T.2 U U.heap ∧ b < U.heap.size ∧ ¬ va_A W sz b
theorem xsP_blind {G : GT} {W : va_W} {sz b : Nat} {T : SC} {av : List Value} : FrameBlind (va_Pc av (xsP G W sz b T)) := fun a U g mk q => ⟨q.1, (xP_blind (av := av) a U g mk ⟨q.1, q.2.1⟩).2, va_X.moved (u := U) (U := U.calling g mk _) (Vm.Alike.refl U.vm) q.2.2.1, q.2.2.2⟩
theorem xsS {G : GT} {W : va_W} {s : State} {H : Heap} {locs : List Loc} {A : Nat → Prop} {b : Nat} {T : SC} (hP : va_P G.1 vwCl W H) (hD : va_D A W) (hS : va_S A s.heap H locs) (hK : CK G s) (hA : ∀ q, s.heap.size ≤ q → A q) (hE : XE A s) (hX : va_X b T.1 T.2 s s.heap) (hbl : b < s.heap.size) (hbA : ¬ A b) {As : List Value} : PreS s H (va_Pc As (xsP G W H.size b T)) As :=
  ⟨xsP_blind, fun U hU hW => ⟨rfl, ((xS (As := As) hP hD hS hK hA hE).2 U hU hW).2, by rw [hU]; exact va_X.moved hW.alike (hX.kept (hS.2.1 b hbl hbA)), by rw [hU]; exact Nat.lt_of_lt_of_le hbl hS.1, fun h => hbA (va_A_in hD hS hA b h)⟩⟩
abbrev MYi (G : GT) (Wd : St → va_W) (A : Nat → Prop) (s : State) (args : Array Value) (below : List Frame) (out : Int32 × St) (mc ms : Nat) : State → Prop := MQ below (va_Qi (fun r u => (r, u) = out) (fun u t => va_P G.1 vwCl (Wd u) t.heap) A) args s mc ms A
section LawC
variable {p : Program} {l : Launch} {e : Env} {R : Room} {s : State} {m : MethodId} {args : Array Value} {below : List Frame} {meth : Method} {c : Code} {H : Heap} {locs : List Loc} {cells slots mc ms : Nat} {Q : State → Prop}
variable {pc : Nat} {ls : Array Slot} {rest st0 : List Value} {a : Array Value} {G : GT} {A : Nat → Prop} {W0 : va_W} {Wd : St → va_W} {C : St} {cc : ByteArray} {q : Nat → Nat}
theorem MYi.end {out : Int32 × St} {v : Int32} {ret : FieldType} (hx : p.tables.exec = Jvm.exec) (hb : c.code = cc) (hr : meth.sig.returnType = some ret) (hlocks : meth.locks = false) (hP : va_P G.1 vwCl (Wd C) H) (hS : va_S A s.heap H locs) (hdg : decode cc pc = .ok (.ireturn, 1)) (hn : narrow ret (.int v) = .int v) (h : some (v, C) = some out) : W p l e R s m args below meth c H locs cells slots (MYi G Wd A s args below out cells slots) (F0 m pc ls [.int v]) :=
  W.zret (v := v) hx hb hr hn (fun t ht _ => ⟨⟨v, C, rfl, Option.some.inj h, by show va_P G.1 vwCl (Wd C) t.heap; rw [ht]; exact hP⟩, hS.F ht⟩) hS.2.2 hdg hlocks
theorem wg_i {out : Int32 × St} (hr : va_Run p l e R s m args below meth c H locs cells slots mc ms (F0 m pc ls st0) rest (va_Qi (fun r u => (r, u) = out) (fun u t => va_P G.1 vwCl (Wd u) t.heap) (va_A W0 H.size) a) (va_A W0 H.size))
    (hD : va_D A W0) (hS : va_S A s.heap H locs) (hA : ∀ q, s.heap.size ≤ q → A q) (hf : ∀ u, (Wd u).map (·.1) = W0.map (·.1))
    (kk : ∀ (H : Heap) (locs : List Loc), va_P G.1 vwCl (Wd out.2) H → va_D A (Wd out.2) → va_S A s.heap H locs → W p l e R s m args below meth c H locs (cells + mc) (slots + ms) Q (F0 m (pc + 3) ls (.int out.1 :: rest))) : W p l e R s m args below meth c H locs cells slots Q (F0 m pc ls st0) := by
  have hF := va_A_in hD hS hA
  refine va_calli hr hS (fun q _ h => hF q h) hF (fun r u t H1 locs1 ht hvm hw hB hz hk hS1 => ?_)
  subst hw
  rw [ht] at hB
  exact kk H1 locs1 hB (hD.same (hf u)) hS1
/-- the row made by copy -/
abbrev cpE (G : GT) (r : Nat) (f : Nat → Int32) : Nat × va_E := (r, .inl (G.2 0, 250, .inl f))
theorem cp_call (hr : va_Run p l e R s m args below meth c H locs cells slots 1 250 (F0 m pc ls st0) rest (va_Qr (fun _ : Unit => True) (fun _ r t => va_P G.1 vwCl (NW G q C ++ [cpE G r (C.2 14)]) t.heap ∧ va_D (va_A (NW G q C) H.size) (NW G q C ++ [cpE G r (C.2 14)])) (va_A (NW G q C) H.size) a) (va_A (NW G q C) H.size))
    (hP : va_P G.1 vwCl (LW G q C) H) (hD : va_D A (LW G q C)) (hS : va_S A s.heap H locs) (hA : ∀ q, s.heap.size ≤ q → A q)
    (kk : ∀ (q1 : Nat → Nat) (H : Heap) (locs : List Loc), (∀ k, k < 21 → q1 k = q k) → va_P G.1 vwCl (LX G q1 (cp C)) H → va_D A (LX G q1 (cp C)) → va_S A s.heap H locs → W p l e R s m args below meth c H locs (cells + 1) (slots + 250) Q (F0 m (pc + 3) ls (.ref (q1 21) :: rest))) : W p l e R s m args below meth c H locs cells slots Q (F0 m pc ls st0) := by
  refine j_r (Wd := fun (_ : Unit) r => NW G q C ++ [cpE G r (C.2 14)]) (wc := NW G q C) (wr := CW G q C) hr hP hD hS hA [20] [0, 1, 2, 3, 4, 5, 6, 7, 8, 9, 10, 11, 12, 13, 14, 15, 16, 17, 18, 19] rfl rfl (by decide) (by decide) (fun _ r H locs _ hP hD hS => ?_)
  have e : LX G (va_up q 21 r) (cp C) = CW G q C ++ (NW G q C ++ [cpE G r (C.2 14)]) := rfl
  exact kk (va_up q 21 r) H locs (fun k hk => va_up_ne q r (by omega)) (by rw [e]; exact hP) (by rw [e]; exact hD) hS
end LawC
