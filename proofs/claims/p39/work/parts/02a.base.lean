/-! ===== guards, calls and names of the pure functions ===== -/
def gd {α : Type} (c : Prop) [Decidable c] (k : Option α) : Option α := if c then k else none
theorem gd_ex {α : Type} {c : Prop} [Decidable c] {k : Option α} {r : α} (h : gd c k = some r) : c ∧ k = some r := by
  unfold gd at h
  by_cases hc : c
  · rw [if_pos hc] at h; exact ⟨hc, h⟩
  · rw [if_neg hc] at h; cases h
theorem gd_t {α : Type} {c : Prop} [Decidable c] {k : Option α} (hc : c) : gd c k = k := if_pos hc
def bd {α β : Type} (x : Option α) (k : α → Option β) : Option β := x.bind k
theorem bd_ex {α β : Type} {x : Option α} {k : α → Option β} {r : β} (h : bd x k = some r) : ∃ y, x = some y ∧ k y = some r := by
  cases x with
  | none => cases h
  | some y => exact ⟨y, rfl, h⟩
theorem bd_t {α β : Type} {x : Option α} {k : α → Option β} {y : α} (h : x = some y) : bd x k = k y := by rw [h]; rfl
def ltv {α β : Type} (e : α) (k : α → β) : β := k e
theorem ltv_at {α β : Type} {e : α} {k : α → β} {r : β} (h : ltv e k = r) (y : α) (hy : y = e) : k y = r := by rw [hy]; exact h
theorem ltv_ex {α β : Type} {e : α} {k : α → β} {r : β} (h : ltv e k = r) : ∃ y, y = e ∧ k y = r := ⟨e, rfl, h⟩
theorem br_T {α : Type} {c : Prop} [Decidable c] {a b r : α} (h : (if c then a else b) = r) (hc : c) : a = r := by rw [if_pos hc] at h; exact h
theorem br_F {α : Type} {c : Prop} [Decidable c] {a b r : α} (h : (if c then a else b) = r) (hc : ¬ c) : b = r := by rw [if_neg hc] at h; exact h
/-- how often a loop may turn -/
def FU : Nat := 5000
/-- a boolean's, a char's number -/
abbrev okZ (v : Int32) : Prop := v = 0 ∨ v = 1
abbrev okC (v : Int32) : Prop := (v.toUInt32 % 65536).toInt32 = v
theorem okZ_n {v : Int32} (h : okZ v) : narrow .boolean (.int v) = .int v := by rcases h with rfl | rfl <;> rfl
theorem okC_n {v : Int32} (h : okC v) : narrow .char (.int v) = .int v := by
  have := pk_nc v
  rw [h] at this
  exact this
/-- an index in its row -/
abbrev ix (i : Int32) (n : Nat) : Prop := ¬ (i < 0 ∨ n ≤ i.toNatClampNeg)
/-! ===== states: numbers and rows ===== -/
abbrev St : Type := (Nat → Int32) × (Nat → Nat → Int32)
def sS (C : St) (k : Nat) (v : Int32) : St := (va_up C.1 k v, C.2)
def sA (C : St) (k i : Nat) (v : Int32) : St := (C.1, va_up C.2 k (upd (C.2 k) i v))
abbrev GT : Type := va_G × (Nat → ClassId)
def tyL (G : GT) : List (ClassId × FieldType) := [(G.2 0, .int), (G.2 1, .char)]
def CW (G : GT) (q : Nat → Nat) (C : St) : va_W := [(q 0, .inr (5, [.ref (q 1), .ref (q 2), .ref (q 3), .ref (q 4), .ref (q 5), .int (C.1 0), .int (C.1 1)])), (q 1, .inr (4, [.ref (q 6), .ref (q 7), .ref (q 8), .ref (q 9), .int (C.1 2), .int (C.1 3)])), (q 2, .inr (3, [.ref (q 10), .ref (q 11), .ref (q 12), .int (C.1 4), .int (C.1 5)])), (q 3, .inr (2, [.ref (q 13), .ref (q 14), .ref (q 15), .ref (q 16), .int (C.1 6)])), (q 4, .inr (0, [.ref (q 17), .ref (q 18), .int (C.1 7), .int (C.1 8)])), (q 5, .inr (1, [.ref (q 19), .int (C.1 9)])), (q 6, .inl (G.2 0, 12, .inl (C.2 0))), (q 7, .inl (G.2 0, 12, .inl (C.2 1))), (q 8, .inl (G.2 0, 12, .inl (C.2 2))), (q 9, .inl (G.2 0, 12, .inl (C.2 3))), (q 10, .inl (G.2 0, 20, .inl (C.2 4))), (q 11, .inl (G.2 0, 20, .inl (C.2 5))), (q 12, .inl (G.2 0, 20, .inl (C.2 6))), (q 13, .inl (G.2 0, 12, .inl (C.2 7))), (q 14, .inl (G.2 0, 6, .inl (C.2 8))), (q 15, .inl (G.2 0, 6, .inl (C.2 9))), (q 16, .inl (G.2 0, 6, .inl (C.2 10))), (q 17, .inl (G.2 1, 12, .inl (C.2 11))), (q 18, .inl (G.2 0, 12, .inl (C.2 12))), (q 19, .inl (G.2 1, 64, .inl (C.2 13)))]

/-! ===== the words of nest mates ===== -/
def nW : List Cond := [.methodLinkNest RX6 9 yX5_init "TreeConfigurator", .methodLinkNest RX6 18 yX3_init "TreeConfigurator", .methodLinkNest RX6 25 yX2_init "TreeConfigurator", .methodLinkNest RX6 32 yX0_init "TreeConfigurator", .methodLinkNest RX6 39 yX1_init "TreeConfigurator", .methodLinkNest RX6 64 yX5_grow "TreeConfigurator", .methodLinkNest RX6 68 yX2_setFirst "TreeConfigurator", .methodLinkNest RX6 141 yX4_reaches "TreeConfigurator", .methodLinkNest RX6 196 yX4_countFrom "TreeConfigurator", .methodLinkNest RX6 200 yX5_allFeatures "TreeConfigurator", .methodLinkNest RX6 277 yX5_allows "TreeConfigurator", .methodLinkNest RX6 280 yX3_holdFor "TreeConfigurator", .methodLinkNest RX6 285 yX3_append "TreeConfigurator", .methodLinkNest RX6 288 yX3_dropLast "TreeConfigurator", .methodLinkNest RX6 296 yX0_run "TreeConfigurator", .methodLinkNest RX0 31 yX6_has "TreeConfigurator", .methodLinkNest RX0 62 yX3_lastKeptBy "TreeConfigurator", .methodLinkNest RX3 28 yX6_has "TreeConfigurator", .methodLinkNest RX4 42 yX6_has "TreeConfigurator", .methodLinkNest RX4 46 yX5_mayBeIn "TreeConfigurator", .methodLinkNest RX4 49 yX3_holdAt "TreeConfigurator", .methodLinkNest RX4 54 yX5_mayBeOut "TreeConfigurator", .methodLinkNest RX5 28 yX6_has "TreeConfigurator", .fieldLinkNest RX6 55 "TreeConfigurator$Tree" "count" "I" "TreeConfigurator", .fieldLinkNest RX6 75 "TreeConfigurator$Tree" "mandatory" "I" "TreeConfigurator", .fieldLinkNest RX6 93 "TreeConfigurator$Tree" "least" "[I" "TreeConfigurator", .fieldLinkNest RX6 97 "TreeConfigurator$Tree" "greatest" "[I" "TreeConfigurator", .fieldLinkNest RX6 100 "TreeConfigurator$Tree" "children" "[I" "TreeConfigurator", .fieldLinkNest RX6 121 "TreeConfigurator$Rules" "count" "I" "TreeConfigurator", .fieldLinkNest RX6 127 "TreeConfigurator$Rules" "inForce" "I" "TreeConfigurator", .fieldLinkNest RX6 169 "TreeConfigurator$Deduction" "in" "I" "TreeConfigurator", .fieldLinkNest RX6 172 "TreeConfigurator$Deduction" "out" "I" "TreeConfigurator", .fieldLinkNest RX0 26 "TreeConfigurator$Tree" "count" "I" "TreeConfigurator", .fieldLinkNest RX0 68 "TreeConfigurator$Rules" "wanted" "[I" "TreeConfigurator", .fieldLinkNest RX0 71 "TreeConfigurator$Tree" "children" "[I" "TreeConfigurator", .fieldLinkNest RX0 74 "TreeConfigurator$Tree" "parents" "[I" "TreeConfigurator", .fieldLinkNest RX0 77 "TreeConfigurator$Tree" "mandatory" "I" "TreeConfigurator", .fieldLinkNest RX0 86 "TreeConfigurator$Tree" "greatest" "[I" "TreeConfigurator", .fieldLinkNest RX0 89 "TreeConfigurator$Tree" "least" "[I" "TreeConfigurator", .fieldLinkNest RX4 9 "TreeConfigurator$Tree" "count" "I" "TreeConfigurator", .declares (Bundle.initS "java/lang/Throwable"), .declares (Bundle.initS "java/lang/RuntimeException"), .declares (Bundle.initS "java/lang/Exception"), .castable "java/lang/IndexOutOfBoundsException" "java/lang/IndexOutOfBoundsException", .castable "java/lang/IllegalArgumentException" "java/lang/IllegalArgumentException", .castable "java/lang/IllegalStateException" "java/lang/IllegalStateException", .castable "java/lang/UnsupportedOperationException" "java/lang/UnsupportedOperationException", .castable "java/util/NoSuchElementException" "java/util/NoSuchElementException", .classLink RL 15 "java/lang/IndexOutOfBoundsException", .classLink RL 18 "java/lang/IllegalArgumentException", .classLink RL 21 "java/lang/IllegalStateException", .classLink RL 28 "java/lang/UnsupportedOperationException", .classLink RL 44 "java/util/NoSuchElementException", .instanceMethod yX3_dropLast, .selects RX3 yX3_dropLast yX3_dropLast, .initialized RX3, .code yX3_dropLast cX3_dropLast 1 none, .fieldLink RX3 21 "TreeConfigurator$Rules" "count" "I", .fieldLink RX3 25 "TreeConfigurator$Rules" "inForce" "I"] ++ wsX30

def isNest : Cond → Bool
  | .methodLinkNest _ _ _ _ => true
  | .fieldLinkNest _ _ _ _ _ _ => true
  | .declares _ => true
  | .castable _ _ => true
  | w => w.onTables && w.keeps
theorem nW_ok : ∀ w ∈ nW, isNest w = true := List.all_eq_true.mp (by decide +kernel)
def NS (U : State) : Prop := ∀ w ∈ nW, va_Nw w U
theorem nest_warm {w : Cond} (hw : isNest w = true) {s U : State} (hW : s.WarmedH U.vm) (h : va_Nw w s) : va_Nw w U := by
  by_cases g : (w.onTables && w.keeps) = true
  · exact word_at hW (Or.inl g) h
  · cases w <;> first | exact va_Nw.warmF hW h | exact va_Nw.warmM hW h | exact va_Nw.warmD hW h | exact va_Nw.warmC hW h | exact absurd hw g
theorem nest_tab {w : Cond} (hw : isNest w = true) : w.onTables = true := by
  by_cases g : (w.onTables && w.keeps) = true
  · exact (Bool.and_eq_true_iff.mp g).1
  · cases w <;> first | rfl | exact absurd hw g
theorem NS.warm {s U : State} (hW : s.WarmedH U.vm) (h : NS s) : NS U := fun w hw => nest_warm (nW_ok w hw) hW (h w hw)
theorem NS.same {u U : State} (e : u.vm = U.vm) (h : NS u) : NS U := fun w hw => va_Nw.same (nest_tab (nW_ok w hw)) e (h w hw)
theorem NS.at {U : State} (h : NS U) (k : Nat) {w : Cond} (hk : nW[k]? = some w) (hw : isNest w = true := by rfl) {A : Array Value} : w.before A U = true := va_Nw.use (nest_tab hw) (h w (List.mem_of_getElem? hk))
theorem NS.nw {U : State} (h : NS U) (k : Nat) {w : Cond} (hk : nW[k]? = some w) : va_Nw w U := h w (List.mem_of_getElem? hk)
def CK (G : GT) (U : State) : Prop := va_K G.1 vwCl (tyL G) U ∧ NS U
theorem CK.warm {G : GT} {s U : State} (hW : s.WarmedH U.vm) (h : CK G s) : CK G U := ⟨va_K.moved hW.alike h.1, h.2.warm hW⟩
theorem CK.calling {G : GT} {U : State} {g : JFrame} {mk : MethodId} {a : Array Value} (h : CK G U) : CK G (U.calling g mk a) := ⟨va_K.moved (u := U) (U := U.calling g mk a) (Vm.Alike.refl U.vm) h.1, NS.same (u := U) (U := U.calling g mk a) rfl h.2⟩
/-! ===== a method's frame ===== -/
def BX (p : Program) (own : String) (ws : List Cond) (cc : ByteArray) (maxL : Nat) (ret : Option FieldType) (s : State) (m : MethodId) (args : Array Value) (meth : Method) (c : Code) : Prop :=
  p.tables.exec = Jvm.exec ∧ c.code = cc ∧ meth.sig.returnType = ret ∧ (∀ w ∈ ws, w.before args s = true) ∧ s.vm.findClass own = some m.cls ∧ c.maxLocals = maxL ∧ meth.locks = false
theorem bx_of {p : Program} {l : Launch} {y : MethodName} {ws : List Cond} {rm : Room} {cc : ByteArray} {maxL : Nat} {ret : Option FieldType} {e : Env} {s : State} {m : MethodId} {args : Array Value} {below : List Frame} {meth : Method} {c : Code} {s₁ : State} (B : BodyLoose p l y (headSpec ws rm) cc maxL ret e s m args below meth c s₁) (hml : c.maxLocals = maxL) : BX p y.cls ws cc maxL ret s m args meth c :=
  ⟨B.exec, B.bytes, B.returns, atoms_spec (ws := ws) B.pre, findClass_of_methodNamed B.named, hml, B.notSynchronized⟩
theorem w_mem {args : Array Value} {s : State} {ws : List Cond} (hts : ∀ w ∈ ws, w.before args s = true) (k : Nat) {w : Cond} (hk : ws[k]? = some w) : w.before args s = true := hts w (List.mem_of_getElem? hk)
/-! ===== methods that only read ===== -/
def roP (G : GT) (W : va_W) (U : State) : Prop := va_P G.1 vwCl W U.heap ∧ CK G U
theorem roP_blind {G : GT} {W : va_W} {av : List Value} : FrameBlind (va_Pc av (roP G W)) := fun _ _ _ _ q => ⟨q.1, q.2.1, q.2.2.calling⟩
theorem roS {G : GT} {W : va_W} {s : State} {H : Heap} (hP : va_P G.1 vwCl W H) (hK : CK G s) {As : List Value} : PreS s H (va_Pc As (roP G W)) As :=
  ⟨roP_blind, fun U hU hW => ⟨rfl, by rw [hU]; exact hP, hK.warm hW⟩⟩
theorem roV {G : GT} {W : va_W} {s : State} {H : Heap} (hP : va_P G.1 vwCl W H) (hK : CK G s) (ci q0 : Nat) {b : Nat} {q : vw_C} {fs : List Value} (hc : vwCl[ci]? = some q) (he : W[q0]? = some (b, .inr (ci, fs))) {As : List Value} : PreV s H q.1 b (va_Pc (.ref b :: As) (roP G W)) As :=
  ⟨roP_blind, va_recv hK.1 hP hc he, fun U hU hW => ⟨rfl, by rw [hU]; exact hP, hK.warm hW⟩⟩
def noP (_ : State) : Prop := True
theorem noP_blind {av : List Value} : FrameBlind (va_Pc av noP) := fun _ _ _ _ q => q
theorem noS {s : State} {H : Heap} {As : List Value} : PreS s H (va_Pc As noP) As := ⟨noP_blind, fun _ _ _ => ⟨rfl, trivial⟩⟩
section RO
variable {p : Program} {l : Launch} {e : Env} {R : Room} {s : State} {m : MethodId} {args : Array Value} {below : List Frame} {meth : Method} {c : Code} {H : Heap} {locs : List Loc} {cells slots : Nat} {Q : State → Prop}
variable {pc : Nat} {ls : Array Slot} {rest st0 : List Value} {a : Array Value}
theorem ro_i {r : Int32} (hr : va_Run p l e R s m args below meth c H locs cells slots 0 0 (F0 m pc ls st0) rest (vp_Si (fun v => v = r) a) (fun _ => False))
    (kk : W p l e R s m args below meth c H locs cells slots Q (F0 m (pc + 3) ls (.int r :: rest))) : W p l e R s m args below meth c H locs cells slots Q (F0 m pc ls st0) := by
  intro T hT X
  obtain ⟨v, st₀, t, T', L, h0, X', hL, e1, -, ⟨r', hv, hp, hh⟩, st⟩ := hr T hT X
  cases hv
  subst hp
  obtain ⟨t2, a1, b1⟩ := kk T' (by rw [e1, hh, h0]) (Stand.forget X' (fun q h => (hL q h).elim))
  exact ⟨t2, st t2 a1, b1⟩
theorem ro_l {r : Int64} (hr : va_Run p l e R s m args below meth c H locs cells slots 0 0 (F0 m pc ls st0) rest (vp_Sl (fun v => v = r) a) (fun _ => False))
    (kk : W p l e R s m args below meth c H locs cells slots Q (F0 m (pc + 3) ls (.long r :: rest))) : W p l e R s m args below meth c H locs cells slots Q (F0 m pc ls st0) := by
  intro T hT X
  obtain ⟨v, st₀, t, T', L, h0, X', hL, e1, -, ⟨r', hv, hp, hh⟩, st⟩ := hr T hT X
  cases hv
  subst hp
  obtain ⟨t2, a1, b1⟩ := kk T' (by rw [e1, hh, h0]) (Stand.forget X' (fun q h => (hL q h).elim))
  exact ⟨t2, st t2 a1, b1⟩
theorem ro_v (hr : va_Run p l e R s m args below meth c H locs cells slots 0 0 (F0 m pc ls st0) rest (va_Sv (fun _ => True) a) (fun _ => False))
    (kk : W p l e R s m args below meth c H locs cells slots Q (F0 m (pc + 3) ls rest)) : W p l e R s m args below meth c H locs cells slots Q (F0 m pc ls st0) := by
  intro T hT X
  obtain ⟨v, st₀, t, T', L, h0, X', hL, e1, -, ⟨hv, hp, hh⟩, st⟩ := hr T hT X
  cases hv
  obtain ⟨t2, a1, b1⟩ := kk T' (by rw [e1, hh, h0]) (Stand.forget X' (fun q h => (hL q h).elim))
  exact ⟨t2, st t2 a1, b1⟩
end RO
abbrev GoI (p : Program) (l : Launch) (e : Env) (R : Room) (s : State) (m : MethodId) (args : Array Value) (below : List Frame) (meth : Method) (c : Code) (out : Int32) (g : JFrame) : Prop := W p l e R s m args below meth c s.heap [] 0 0 (MQ below (vp_Si (fun v => v = out)) args s 0 0 (fun _ => False)) g
abbrev GoL (p : Program) (l : Launch) (e : Env) (R : Room) (s : State) (m : MethodId) (args : Array Value) (below : List Frame) (meth : Method) (c : Code) (out : Int64) (g : JFrame) : Prop := W p l e R s m args below meth c s.heap [] 0 0 (MQ below (vp_Sl (fun v => v = out)) args s 0 0 (fun _ => False)) g
theorem GoI.end {p : Program} {l : Launch} {e : Env} {R : Room} {s : State} {m : MethodId} {args : Array Value} {below : List Frame} {meth : Method} {c : Code} {out v : Int32} {cc : ByteArray} {ret : FieldType} {pc : Nat} {ls : Array Slot} (hx : p.tables.exec = Jvm.exec) (hb : c.code = cc) (hr : meth.sig.returnType = some ret) (hlocks : meth.locks = false) (hdg : decode cc pc = .ok (.ireturn, 1)) (hn : narrow ret (.int v) = .int v) (h : some v = some out) : GoI p l e R s m args below meth c out (F0 m pc ls [.int v]) :=
  W.zret (v := v) hx hb hr hn (fun t ht _ => ⟨v, rfl, Option.some.inj h, ht⟩) (fun _ q => nomatch q) hdg hlocks
theorem GoL.end {p : Program} {l : Launch} {e : Env} {R : Room} {s : State} {m : MethodId} {args : Array Value} {below : List Frame} {meth : Method} {c : Code} {out v : Int64} {cc : ByteArray} {pc : Nat} {ls : Array Slot} (hx : p.tables.exec = Jvm.exec) (hb : c.code = cc) (hr : meth.sig.returnType = some .long) (hlocks : meth.locks = false) (hdg : decode cc pc = .ok (.lreturn, 1)) (h : some v = some out) : GoL p l e R s m args below meth c out (F0 m pc ls [.long v]) :=
  W.lret (v := v) hx hb hr (fun t ht _ => ⟨v, rfl, Option.some.inj h, ht⟩) (fun _ q => nomatch q) hdg hlocks
/-! ===== rooms of the methods that call themselves ===== -/
def RU : Nat := 13
theorem gN_X3_dropLast : GoodIn nW wsX3_dropLast := goodIn_of _ (by decide +kernel)
