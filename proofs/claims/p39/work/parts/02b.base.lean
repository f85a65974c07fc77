/-! ===== methods that write their world ===== -/
/-- a method's start: the heap's size, the world -/
def wrP (G : GT) (W : va_W) (sz : Nat) (U : State) : Prop := U.heap.size = sz ∧ va_P G.1 vwCl W U.heap ∧ CK G U ∧ va_D (fun _ => True) W
theorem wrP_blind {G : GT} {W : va_W} {sz : Nat} {av : List Value} : FrameBlind (va_Pc av (wrP G W sz)) := fun _ _ _ _ q => ⟨q.1, q.2.1, q.2.2.1, q.2.2.2.1.calling, q.2.2.2.2⟩
theorem wrS {G : GT} {W : va_W} {s : State} {H : Heap} {A : Nat → Prop} (hP : va_P G.1 vwCl W H) (hD : va_D A W) (hK : CK G s) {As : List Value} : PreS s H (va_Pc As (wrP G W H.size)) As :=
  ⟨wrP_blind, fun U hU hW => ⟨rfl, by rw [hU], by rw [hU]; exact hP, hK.warm hW, hD.weaken (fun _ _ _ _ => trivial)⟩⟩
theorem wrV {G : GT} {W : va_W} {s : State} {H : Heap} {A : Nat → Prop} (hP : va_P G.1 vwCl W H) (hD : va_D A W) (hK : CK G s) (ci q0 : Nat) {b : Nat} {q : vw_C} {fs : List Value} (hc : vwCl[ci]? = some q) (he : W[q0]? = some (b, .inr (ci, fs))) {As : List Value} : PreV s H q.1 b (va_Pc (.ref b :: As) (wrP G W H.size)) As :=
  ⟨wrP_blind, va_recv hK.1 hP hc he, fun U hU hW => ⟨rfl, by rw [hU], by rw [hU]; exact hP, hK.warm hW, hD.weaken (fun _ _ _ _ => trivial)⟩⟩
/-- the addresses of a world are apart whatever its cells hold -/
theorem va_D.same {A : Nat → Prop} {W W' : va_W} (h : va_D A W) (e : W'.map (·.1) = W.map (·.1)) : va_D A W' := by
  have hk : ∀ (k : Nat) (x : Nat × va_E), W'[k]? = some x → ∃ y, W[k]? = some y ∧ y.1 = x.1 := by
    intro k x hx
    have h1 : (W'.map (·.1))[k]? = some x.1 := by rw [List.getElem?_map, hx]; rfl
    rw [e, List.getElem?_map] at h1
    cases hy : W[k]? with
    | none => rw [hy] at h1; cases h1
    | some y => rw [hy] at h1; exact ⟨y, rfl, Option.some.inj h1⟩
  refine ⟨fun i j x y hx hy hxy => ?_, fun k x hx => ?_⟩
  · obtain ⟨x', h1, h2⟩ := hk i x hx
    obtain ⟨y', h3, h4⟩ := hk j y hy
    exact h.1 i j x' y' h1 h3 (by rw [h2, h4]; exact hxy)
  · obtain ⟨y, h1, h2⟩ := hk k x hx
    rw [← h2]
    exact h.2 k y h1
theorem va_A_in {A : Nat → Prop} {W : va_W} {H0 H : Heap} {locs : List Loc} (hD : va_D A W) (hS : va_S A H0 H locs) (hA : ∀ q, H0.size ≤ q → A q) : ∀ q, va_A W H.size q → A q := by
  intro q h
  rcases h with ⟨k, e, h⟩ | h
  · exact hD.2 k (q, e) h
  · exact hA q (Nat.le_trans hS.1 h)
section WR
variable {p : Program} {l : Launch} {e : Env} {R : Room} {s : State} {m : MethodId} {args : Array Value} {below : List Frame} {meth : Method} {c : Code} {H : Heap} {locs : List Loc} {cells slots : Nat} {Q : State → Prop}
variable {pc : Nat} {ls : Array Slot} {rest st0 : List Value} {a : Array Value} {G : GT} {A : Nat → Prop} {W0 : va_W} {Wd : St → va_W}
theorem wr_i {out : Int32 × St} (hr : va_Run p l e R s m args below meth c H locs cells slots 0 0 (F0 m pc ls st0) rest (va_Qi (fun r u => (r, u) = out) (fun u t => va_P G.1 vwCl (Wd u) t.heap) (va_A W0 H.size) a) (va_A W0 H.size))
    (hD : va_D A W0) (hS : va_S A s.heap H locs) (hA : ∀ q, s.heap.size ≤ q → A q) (hf : ∀ u, (Wd u).map (·.1) = W0.map (·.1))
    (kk : ∀ (H : Heap) (locs : List Loc), va_P G.1 vwCl (Wd out.2) H → va_D A (Wd out.2) → va_S A s.heap H locs → W p l e R s m args below meth c H locs cells slots Q (F0 m (pc + 3) ls (.int out.1 :: rest))) : W p l e R s m args below meth c H locs cells slots Q (F0 m pc ls st0) := by
  have hF := va_A_in hD hS hA
  refine va_calli hr hS (fun q _ h => hF q h) hF (fun r u t H1 locs1 ht hvm hw hB hz hk hS1 => ?_)
  subst hw
  rw [ht] at hB
  exact kk H1 locs1 hB (hD.same (hf u)) hS1
theorem wr_v {out : St} (hr : va_Run p l e R s m args below meth c H locs cells slots 0 0 (F0 m pc ls st0) rest (va_Qv (fun u => u = out) (fun u t => va_P G.1 vwCl (Wd u) t.heap) (va_A W0 H.size) a) (va_A W0 H.size))
    (hD : va_D A W0) (hS : va_S A s.heap H locs) (hA : ∀ q, s.heap.size ≤ q → A q) (hf : ∀ u, (Wd u).map (·.1) = W0.map (·.1))
    (kk : ∀ (H : Heap) (locs : List Loc), va_P G.1 vwCl (Wd out) H → va_D A (Wd out) → va_S A s.heap H locs → W p l e R s m args below meth c H locs cells slots Q (F0 m (pc + 3) ls rest)) : W p l e R s m args below meth c H locs cells slots Q (F0 m pc ls st0) := by
  have hF := va_A_in hD hS hA
  refine va_callv hr hS (fun q _ h => hF q h) hF (fun u t H1 locs1 ht hvm hw hB hz hk hS1 => ?_)
  subst hw
  rw [ht] at hB
  exact kk H1 locs1 hB (hD.same (hf u)) hS1
theorem wr_l {out : Int64 × St} (hr : va_Run p l e R s m args below meth c H locs cells slots 0 0 (F0 m pc ls st0) rest (va_Ql (fun r u => (r, u) = out) (fun u t => va_P G.1 vwCl (Wd u) t.heap) (va_A W0 H.size) a) (va_A W0 H.size))
    (hD : va_D A W0) (hS : va_S A s.heap H locs) (hA : ∀ q, s.heap.size ≤ q → A q) (hf : ∀ u, (Wd u).map (·.1) = W0.map (·.1))
    (kk : ∀ (H : Heap) (locs : List Loc), va_P G.1 vwCl (Wd out.2) H → va_D A (Wd out.2) → va_S A s.heap H locs → W p l e R s m args below meth c H locs cells slots Q (F0 m (pc + 3) ls (.long out.1 :: rest))) : W p l e R s m args below meth c H locs cells slots Q (F0 m pc ls st0) := by
  have hF := va_A_in hD hS hA
  refine va_calll hr hS (fun q _ h => hF q h) hF (fun r u t H1 locs1 ht hvm hw hB hz hk hS1 => ?_)
  subst hw
  rw [ht] at hB
  exact kk H1 locs1 hB (hD.same (hf u)) hS1
theorem wr_f {out : UInt32 × St} (hr : va_Run p l e R s m args below meth c H locs cells slots 0 0 (F0 m pc ls st0) rest (va_Qf (fun r u => (r, u) = out) (fun u t => va_P G.1 vwCl (Wd u) t.heap) (va_A W0 H.size) a) (va_A W0 H.size))
    (hD : va_D A W0) (hS : va_S A s.heap H locs) (hA : ∀ q, s.heap.size ≤ q → A q) (hf : ∀ u, (Wd u).map (·.1) = W0.map (·.1))
    (kk : ∀ (H : Heap) (locs : List Loc), va_P G.1 vwCl (Wd out.2) H → va_D A (Wd out.2) → va_S A s.heap H locs → W p l e R s m args below meth c H locs cells slots Q (F0 m (pc + 3) ls (.float out.1 :: rest))) : W p l e R s m args below meth c H locs cells slots Q (F0 m pc ls st0) := by
  have hF := va_A_in hD hS hA
  refine va_callf hr hS (fun q _ h => hF q h) hF (fun r u t H1 locs1 ht hvm hw hB hz hk hS1 => ?_)
  subst hw
  rw [ht] at hB
  exact kk H1 locs1 hB (hD.same (hf u)) hS1
theorem wr_d {out : UInt64 × St} (hr : va_Run p l e R s m args below meth c H locs cells slots 0 0 (F0 m pc ls st0) rest (va_Qd (fun r u => (r, u) = out) (fun u t => va_P G.1 vwCl (Wd u) t.heap) (va_A W0 H.size) a) (va_A W0 H.size))
    (hD : va_D A W0) (hS : va_S A s.heap H locs) (hA : ∀ q, s.heap.size ≤ q → A q) (hf : ∀ u, (Wd u).map (·.1) = W0.map (·.1))
    (kk : ∀ (H : Heap) (locs : List Loc), va_P G.1 vwCl (Wd out.2) H → va_D A (Wd out.2) → va_S A s.heap H locs → W p l e R s m args below meth c H locs cells slots Q (F0 m (pc + 3) ls (.double out.1 :: rest))) : W p l e R s m args below meth c H locs cells slots Q (F0 m pc ls st0) := by
  have hF := va_A_in hD hS hA
  refine va_calld hr hS (fun q _ h => hF q h) hF (fun r u t H1 locs1 ht hvm hw hB hz hk hS1 => ?_)
  subst hw
  rw [ht] at hB
  exact kk H1 locs1 hB (hD.same (hf u)) hS1
end WR
abbrev MQi (G : GT) (Wd : St → va_W) (A : Nat → Prop) (s : State) (args : Array Value) (below : List Frame) (out : Int32 × St) : State → Prop := MQ below (va_Qi (fun r u => (r, u) = out) (fun u t => va_P G.1 vwCl (Wd u) t.heap) A) args s 0 0 A
abbrev MQl (G : GT) (Wd : St → va_W) (A : Nat → Prop) (s : State) (args : Array Value) (below : List Frame) (out : Int64 × St) : State → Prop := MQ below (va_Ql (fun r u => (r, u) = out) (fun u t => va_P G.1 vwCl (Wd u) t.heap) A) args s 0 0 A
abbrev MQf (G : GT) (Wd : St → va_W) (A : Nat → Prop) (s : State) (args : Array Value) (below : List Frame) (out : UInt32 × St) : State → Prop := MQ below (va_Qf (fun r u => (r, u) = out) (fun u t => va_P G.1 vwCl (Wd u) t.heap) A) args s 0 0 A
abbrev MQd (G : GT) (Wd : St → va_W) (A : Nat → Prop) (s : State) (args : Array Value) (below : List Frame) (out : UInt64 × St) : State → Prop := MQ below (va_Qd (fun r u => (r, u) = out) (fun u t => va_P G.1 vwCl (Wd u) t.heap) A) args s 0 0 A
abbrev MQv (G : GT) (Wd : St → va_W) (A : Nat → Prop) (s : State) (args : Array Value) (below : List Frame) (out : St) : State → Prop := MQ below (va_Qv (fun u => u = out) (fun u t => va_P G.1 vwCl (Wd u) t.heap) A) args s 0 0 A
section WRE
variable {p : Program} {l : Launch} {e : Env} {R : Room} {s : State} {m : MethodId} {args : Array Value} {below : List Frame} {meth : Method} {c : Code} {H : Heap} {locs : List Loc}
variable {pc : Nat} {ls : Array Slot} {G : GT} {A : Nat → Prop} {Wd : St → va_W} {C : St} {cc : ByteArray}
theorem MQi.end {out : Int32 × St} {v : Int32} {ret : FieldType} (hx : p.tables.exec = Jvm.exec) (hb : c.code = cc) (hr : meth.sig.returnType = some ret) (hlocks : meth.locks = false) (hP : va_P G.1 vwCl (Wd C) H) (hS : va_S A s.heap H locs) (hdg : decode cc pc = .ok (.ireturn, 1)) (hn : narrow ret (.int v) = .int v) (h : some (v, C) = some out) : W p l e R s m args below meth c H locs 0 0 (MQi G Wd A s args below out) (F0 m pc ls [.int v]) :=
  W.zret (v := v) hx hb hr hn (fun t ht _ => ⟨⟨v, C, rfl, Option.some.inj h, by show va_P G.1 vwCl (Wd C) t.heap; rw [ht]; exact hP⟩, hS.F ht⟩) hS.2.2 hdg hlocks
theorem MQl.end {out : Int64 × St} {v : Int64} (hx : p.tables.exec = Jvm.exec) (hb : c.code = cc) (hr : meth.sig.returnType = some .long) (hlocks : meth.locks = false) (hP : va_P G.1 vwCl (Wd C) H) (hS : va_S A s.heap H locs) (hdg : decode cc pc = .ok (.lreturn, 1)) (h : some (v, C) = some out) : W p l e R s m args below meth c H locs 0 0 (MQl G Wd A s args below out) (F0 m pc ls [.long v]) :=
  W.lret (v := v) hx hb hr (fun t ht _ => ⟨⟨v, C, rfl, Option.some.inj h, by show va_P G.1 vwCl (Wd C) t.heap; rw [ht]; exact hP⟩, hS.F ht⟩) hS.2.2 hdg hlocks
theorem MQf.end {out : UInt32 × St} {v : UInt32} (hx : p.tables.exec = Jvm.exec) (hb : c.code = cc) (hr : meth.sig.returnType = some .float) (hlocks : meth.locks = false) (hP : va_P G.1 vwCl (Wd C) H) (hS : va_S A s.heap H locs) (hdg : decode cc pc = .ok (.freturn, 1)) (h : some (v, C) = some out) : W p l e R s m args below meth c H locs 0 0 (MQf G Wd A s args below out) (F0 m pc ls [.float v]) :=
  W.fret (v := v) hx hb hr (fun t ht _ => ⟨⟨v, C, rfl, Option.some.inj h, by show va_P G.1 vwCl (Wd C) t.heap; rw [ht]; exact hP⟩, hS.F ht⟩) hS.2.2 hdg hlocks
theorem MQd.end {out : UInt64 × St} {v : UInt64} (hx : p.tables.exec = Jvm.exec) (hb : c.code = cc) (hr : meth.sig.returnType = some .double) (hlocks : meth.locks = false) (hP : va_P G.1 vwCl (Wd C) H) (hS : va_S A s.heap H locs) (hdg : decode cc pc = .ok (.dreturn, 1)) (h : some (v, C) = some out) : W p l e R s m args below meth c H locs 0 0 (MQd G Wd A s args below out) (F0 m pc ls [.double v]) :=
  W.dret (v := v) hx hb hr (fun t ht _ => ⟨⟨v, C, rfl, Option.some.inj h, by show va_P G.1 vwCl (Wd C) t.heap; rw [ht]; exact hP⟩, hS.F ht⟩) hS.2.2 hdg hlocks
theorem MQv.end {out : St} (hx : p.tables.exec = Jvm.exec) (hb : c.code = cc) (hr : meth.sig.returnType = none) (hlocks : meth.locks = false) (hP : va_P G.1 vwCl (Wd C) H) (hS : va_S A s.heap H locs) (hdg : decode cc pc = .ok (.return_, 1)) (h : some C = some out) : W p l e R s m args below meth c H locs 0 0 (MQv G Wd A s args below out) (F0 m pc ls []) :=
  W.vret hx hb hr (fun t ht _ => ⟨⟨C, rfl, Option.some.inj h, by show va_P G.1 vwCl (Wd C) t.heap; rw [ht]; exact hP⟩, hS.F ht⟩) hS.2.2 hdg hlocks
end WRE
/-! ===== numbers with a point ===== -/
abbrev okN32 (r : UInt32) : Prop := r &&& 0x7fffffff ≤ 0x7f800000
abbrev okN64 (r : UInt64) : Prop := r &&& 0x7fffffffffffffff ≤ 0x7ff0000000000000
theorem okN32_n {r : UInt32} (h : okN32 r) : vf_n32 r := h
theorem okN64_n {r : UInt64} (h : okN64 r) : vf_n64 r := h
/-- a read-only method that answers nothing, one that answers a double -/
abbrev GoV (p : Program) (l : Launch) (e : Env) (R : Room) (s : State) (m : MethodId) (args : Array Value) (below : List Frame) (meth : Method) (c : Code) (_out : Unit) (g : JFrame) : Prop := W p l e R s m args below meth c s.heap [] 0 0 (MQ below (va_Sv (fun _ => True)) args s 0 0 (fun _ => False)) g
abbrev GoD (p : Program) (l : Launch) (e : Env) (R : Room) (s : State) (m : MethodId) (args : Array Value) (below : List Frame) (meth : Method) (c : Code) (out : UInt64) (g : JFrame) : Prop := W p l e R s m args below meth c s.heap [] 0 0 (MQ below (vp_Sd (fun v => v = out)) args s 0 0 (fun _ => False)) g
theorem GoV.end {p : Program} {l : Launch} {e : Env} {R : Room} {s : State} {m : MethodId} {args : Array Value} {below : List Frame} {meth : Method} {c : Code} {out : Unit} {cc : ByteArray} {pc : Nat} {ls : Array Slot} (hx : p.tables.exec = Jvm.exec) (hb : c.code = cc) (hr : meth.sig.returnType = none) (hlocks : meth.locks = false) (hdg : decode cc pc = .ok (.return_, 1)) : GoV p l e R s m args below meth c out (F0 m pc ls []) :=
  W.vret hx hb hr (fun t ht _ => ⟨rfl, trivial, ht⟩) (fun _ q => nomatch q) hdg hlocks
theorem GoD.end {p : Program} {l : Launch} {e : Env} {R : Room} {s : State} {m : MethodId} {args : Array Value} {below : List Frame} {meth : Method} {c : Code} {out v : UInt64} {cc : ByteArray} {pc : Nat} {ls : Array Slot} (hx : p.tables.exec = Jvm.exec) (hb : c.code = cc) (hr : meth.sig.returnType = some .double) (hlocks : meth.locks = false) (hdg : decode cc pc = .ok (.dreturn, 1)) (h : some v = some out) : GoD p l e R s m args below meth c out (F0 m pc ls [.double v]) :=
  W.dret (v := v) hx hb hr (fun t ht _ => ⟨v, rfl, Option.some.inj h, ht⟩) (fun _ q => nomatch q) hdg hlocks
theorem ro_d {p : Program} {l : Launch} {e : Env} {R : Room} {s : State} {m : MethodId} {args : Array Value} {below : List Frame} {meth : Method} {c : Code} {H : Heap} {locs : List Loc} {cells slots : Nat} {Q : State → Prop} {pc : Nat} {ls : Array Slot} {rest st0 : List Value} {a : Array Value} {r : UInt64} (hr : va_Run p l e R s m args below meth c H locs cells slots 0 0 (F0 m pc ls st0) rest (vp_Sd (fun v => v = r) a) (fun _ => False))
    (kk : W p l e R s m args below meth c H locs cells slots Q (F0 m (pc + 3) ls (.double r :: rest))) : W p l e R s m args below meth c H locs cells slots Q (F0 m pc ls st0) := by
  intro T hT X
  obtain ⟨v, st₀, t, T', L, h0, X', hL, e1, -, ⟨r', hv, hp, hh⟩, st⟩ := hr T hT X
  cases hv
  subst hp
  obtain ⟨t2, a1, b1⟩ := kk T' (by rw [e1, hh, h0]) (Stand.forget X' (fun q h => (hL q h).elim))
  exact ⟨t2, st t2 a1, b1⟩
/-! ===== functions that may tell of a throw: .inl which, .inr the answer ===== -/
def tb {ε ε' α β : Type} (x : Option (ε ⊕ α)) (f : ε → ε') (k : α → Option (ε' ⊕ β)) : Option (ε' ⊕ β) := match x with
  | none => none
  | some (.inl e) => some (.inl (f e))
  | some (.inr a) => k a
theorem tb_N {ε ε' α β : Type} {x : Option (ε ⊕ α)} {f : ε → ε'} {k : α → Option (ε' ⊕ β)} {r : β} (h : tb x f k = some (.inr r)) : ∃ a, x = some (.inr a) ∧ k a = some (.inr r) := by
  match x, h with
  | none, h => cases h
  | some (.inl e), h => cases h
  | some (.inr a), h => exact ⟨a, rfl, h⟩
theorem tb_X {ε ε' α β : Type} {x : Option (ε ⊕ α)} {f : ε → ε'} {k : α → Option (ε' ⊕ β)} {r : ε'} (h : tb x f k = some (.inl r)) : (∃ e, x = some (.inl e) ∧ f e = r) ∨ ∃ a, x = some (.inr a) ∧ k a = some (.inl r) := by
  match x, h with
  | none, h => cases h
  | some (.inl e), h => exact Or.inl ⟨e, rfl, Sum.inl.inj (Option.some.inj h)⟩
  | some (.inr a), h => exact Or.inr ⟨a, rfl, h⟩
theorem tb_t {ε ε' α β : Type} {x : Option (ε ⊕ α)} {f : ε → ε'} {k : α → Option (ε' ⊕ β)} {a : α} (h : x = some (.inr a)) : tb x f k = k a := by rw [h]; rfl
theorem tb_e {ε ε' α β : Type} {x : Option (ε ⊕ α)} {f : ε → ε'} {k : α → Option (ε' ⊕ β)} {a : ε} (h : x = some (.inl a)) : tb x f k = some (.inl (f a)) := by rw [h]; rfl
/-- .. where a throw isn't looked for -/
def tn {ε α β : Type} (x : Option (ε ⊕ α)) (k : α → Option β) : Option β := match x with
  | some (.inr a) => k a
  | _ => none
theorem tn_ex {ε α β : Type} {x : Option (ε ⊕ α)} {k : α → Option β} {r : β} (h : tn x k = some r) : ∃ a, x = some (.inr a) ∧ k a = some r := by
  match x, h with
  | none, h => cases h
  | some (.inl e), h => cases h
  | some (.inr a), h => exact ⟨a, rfl, h⟩
theorem tn_t {ε α β : Type} {x : Option (ε ⊕ α)} {k : α → Option β} {a : α} (h : x = some (.inr a)) : tn x k = k a := by rw [h]; rfl
