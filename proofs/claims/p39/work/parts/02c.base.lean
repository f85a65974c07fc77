/-! ===== methods that throw ===== -/
def exN : Nat → String
  | 1 => "java/lang/IndexOutOfBoundsException"
  | 2 => "java/lang/IllegalArgumentException"
  | 3 => "java/lang/IllegalStateException"
  | 4 => "java/lang/UnsupportedOperationException"
  | _ => "java/util/NoSuchElementException"
def exUp : List String := ["java/lang/RuntimeException", "java/lang/Exception"]
theorem exUp_fit : ∀ n ∈ exUp, Bundle.fit n = true := by decide +kernel
def xStr : List (Nat × String) := [(50, "the price is out of range"), (61, "there are 12 features"), (84, "there would be no completion"), (91, "a number is out of range"), (124, "there is no such rule"), (130, "the rule is lifted already"), (151, "the feature is not decided"), (267, "there is no such feature"), (269, "it is the root"), (271, "two features are the same"), (273, "the feature is decided"), (275, "there is no such set of features"), (283, "there are 20 rules")]
def exK (a : Nat) : Prop := 1 ≤ a ∧ a ≤ 5
/-- what a throw and its catching need of the start: two statics of Throwable, the texts, which class isn't which -/
def XE (A : Nat → Prop) (U : State) : Prop := vx_Zq Bundle.tN "UNASSIGNED_STACK" Bundle.steD A U U.heap ∧ vx_Zq Bundle.tN "SUPPRESSED_SENTINEL" Bundle.listD A U U.heap ∧ (∀ k ∈ xStr, ∃ sa, vk_R RX6 k.1 k.2 sa U) ∧ ∀ a b : Nat, exK a → exK b → a ≠ b → va_Nc (exN a) (exN b) U
theorem XE.at {A A' : Nat → Prop} {s U : State} {H : Heap} {locs : List Loc} (h : XE A s) (hW : s.WarmedH U.vm) (hU : U.heap = H) (hS : va_S A s.heap H locs) (hAA : ∀ q, A' q → A q) : XE A' U := by
  obtain ⟨h1, h2, h3, h4⟩ := h
  refine ⟨?_, ?_, fun k hk => ?_, fun a b ha hb hab => va_Nc.moved hW.alike (h4 a b ha hb hab)⟩
  · rw [hU]; exact vx_Zq.moved hW.alike ((h1.kept hS.2.1).narrow hAA)
  · rw [hU]; exact vx_Zq.moved hW.alike ((h2.kept hS.2.1).narrow hAA)
  · obtain ⟨sa, h⟩ := h3 k hk
    exact ⟨sa, vk_R.warm hW h⟩
theorem XE.calling {A : Nat → Prop} {U : State} {g : JFrame} {mk : MethodId} {a : Array Value} (h : XE A U) : XE A (U.calling g mk a) := by
  obtain ⟨h1, h2, h3, h4⟩ := h
  refine ⟨vx_Zq.moved (u := U) (U := U.calling g mk a) (Vm.Alike.refl U.vm) h1, vx_Zq.moved (u := U) (U := U.calling g mk a) (Vm.Alike.refl U.vm) h2, fun k hk => ?_, fun a b ha hb hab => va_Nc.moved (u := U) (U := U.calling g mk _) (Vm.Alike.refl U.vm) (h4 a b ha hb hab)⟩
  obtain ⟨sa, h⟩ := h3 k hk
  exact ⟨sa, vk_R.same (u := U) (U := U.calling g mk a) rfl h⟩
def xP (G : GT) (W : va_W) (sz : Nat) (U : State) : Prop := wrP G W sz U ∧ XE (va_A W sz) U
theorem xP_blind {G : GT} {W : va_W} {sz : Nat} {av : List Value} : FrameBlind (va_Pc av (xP G W sz)) := fun a U g mk q => ⟨q.1, (wrP_blind (av := av) a U g mk ⟨q.1, q.2.1⟩).2, q.2.2.calling⟩
theorem xS {G : GT} {W : va_W} {s : State} {H : Heap} {locs : List Loc} {A : Nat → Prop} (hP : va_P G.1 vwCl W H) (hD : va_D A W) (hS : va_S A s.heap H locs) (hK : CK G s) (hA : ∀ q, s.heap.size ≤ q → A q) (hE : XE A s) {As : List Value} : PreS s H (va_Pc As (xP G W H.size)) As :=
  ⟨xP_blind, fun U hU hW => ⟨rfl, ⟨by rw [hU], by rw [hU]; exact hP, hK.warm hW, hD.weaken (fun _ _ _ _ => trivial)⟩, hE.at hW hU hS (va_A_in hD hS hA)⟩⟩
theorem xV {G : GT} {W : va_W} {s : State} {H : Heap} {locs : List Loc} {A : Nat → Prop} (hP : va_P G.1 vwCl W H) (hD : va_D A W) (hS : va_S A s.heap H locs) (hK : CK G s) (hA : ∀ q, s.heap.size ≤ q → A q) (hE : XE A s) (ci q0 : Nat) {b : Nat} {q : vw_C} {fs : List Value} (hc : vwCl[ci]? = some q) (he : W[q0]? = some (b, .inr (ci, fs))) {As : List Value} : PreV s H q.1 b (va_Pc (.ref b :: As) (xP G W H.size)) As :=
  ⟨xP_blind, va_recv hK.1 hP hc he, fun U hU hW => ⟨rfl, ⟨by rw [hU], by rw [hU]; exact hP, hK.warm hW, hD.weaken (fun _ _ _ _ => trivial)⟩, hE.at hW hU hS (va_A_in hD hS hA)⟩⟩
/-- it throws: the exception out.1, the world's numbers out.2 -/
def XCf (G : GT) (Wd : St → va_W) (A : Nat → Prop) (out : Nat × St) : String → State → State → Prop := vx_X (fun u : St => u = out.2) (fun E u t => E = exN out.1 ∧ va_P G.1 vwCl (Wd u) t.heap) A
abbrev MQx (G : GT) (Wd : St → va_W) (A : Nat → Prop) (s : State) (args : Array Value) (below : List Frame) (out : Nat × St) : State → Prop := vx_MQ below (fun _ _ _ _ => False) (XCf G Wd A out) args s 1 6 A
theorem nn_ {ε α : Type} {a b : α} (h : some (Sum.inr a : ε ⊕ α) = some (Sum.inr b)) : some a = some b := congrArg some (Sum.inr.inj (Option.some.inj h))
theorem xl_ {ε α : Type} {a b : ε} (h : some (Sum.inl a : ε ⊕ α) = some (Sum.inl b)) : a = b := Sum.inl.inj (Option.some.inj h)
theorem NS.all {s : State} (h : NS s) {args : Array Value} : ∀ w ∈ nW, w.before args s = true := fun w hw => va_Nw.use (nest_tab (nW_ok w hw)) (h w hw)
section XM
variable {p : Program} {l : Launch} {e : Env} {R : Room} {s : State} {m : MethodId} {args : Array Value} {below : List Frame} {meth : Method} {c : Code} {H : Heap} {locs : List Loc}
variable {pc : Nat} {ls : Array Slot} {rest st0 : List Value} {G : GT} {A : Nat → Prop} {W0 : va_W} {Wd : St → va_W}
/-- what a callee throws goes on to the caller -/
theorem x_prop {out e' : Nat × St} (hr : vx_Run p l e R s m args below meth c H locs 0 0 1 6 (F0 m pc ls st0) rest (fun _ _ _ => False) (XCf G Wd (va_A W0 H.size) e') (va_A W0 H.size))
    (hD : va_D A W0) (hS : va_S A s.heap H locs) (hA : ∀ q, s.heap.size ≤ q → A q) (hf : ∀ u, (Wd u).map (·.1) = W0.map (·.1)) (hex : ∀ x ∈ c.exceptionTable.toList, False) (hlocks : meth.locks = false) (he : e' = out) : W p l e R s m args below meth c H locs 0 0 (MQx G Wd A s args below out) (F0 m pc ls st0) := by
  subst he
  have hF := va_A_in hD hS hA
  intro T hT X
  rcases hr T hT X with ⟨v, st₀, t, T', L, h0, X', hL, e1, e2, hF, st⟩ | ⟨q, st₀, t, T', L, E, ce, h0, X', hL, e1, e2, hx, hce, hcv, hcl, st⟩
  · exact hF.elim
  · obtain ⟨u, hu, ⟨hE, hPt⟩, hFr⟩ := hx
    obtain ⟨k1, k2, k3⟩ := vx_keep h0 e1 hS (fun q _ h => hF q h) hF hL hFr
    have hw := vx_out (p := p) (l := l) (e := e) (R := R) (s := s) (m := m) (meth := meth) (c := c) (below := below) (args := args) (cells := 0 + 1) (slots := 0 + 6) (Qc := fun _ _ _ _ => False) (XC := XCf G Wd A e') (mc := 1) (ms := 6) (free := A) (pc := pc) (ls := ls) (rest := rest) (fun x hx => (hex x hx).elim) hlocks (H := T'.heap) (locs := locs ++ L) (q := q) (by rw [e1]; exact hce) hcv hcl
      (fun t' ht' _ => ⟨u, hu, ⟨hE, by rw [ht', e1]; exact hPt⟩, by rw [← ht'] at k3; exact k3.F rfl⟩) k3.2.2 (Nat.le_refl _) (Nat.le_refl _)
    obtain ⟨t2, a1, b1⟩ := hw T' rfl X'
    exact ⟨t2, st.trans a1, b1⟩
theorem xc_of {out : Nat × St} {C : St} {k : Nat} {E : String} {t : State} (hP : va_P G.1 vwCl (Wd C) H) (hS : va_S A s.heap H locs) (h : out = (k, C)) (hE : E = exN k) (hz : H.size ≤ t.heap.size) (hk : ∀ q : Nat, q < H.size → t.heap[q]? = H[q]?) : XCf G Wd A out E s t := by
  subst h
  refine ⟨C, rfl, ⟨hE, fun i q hq => ?_⟩, ⟨Nat.le_trans hS.1 hz, fun q h1 h2 => ?_⟩⟩
  · exact (hP i q hq).kept (hk q.1 (vx_lt hP hq))
  · rw [hk q (Nat.lt_of_lt_of_le h1 hS.1)]; exact hS.2.1 q h1 h2
variable {cc : ByteArray}
theorem x_throwSW {out : Nat × St} {C : St} {k ik is ic nL : Nat} {cls text : String} {lv : List (Nat × Value)} {Ts : List Cond} (hx : p.tables.exec = Jvm.exec) (hb : c.code = cc) (hl0 : l.stackTraces = false) (hts : ∀ w ∈ Ts, w.before args s = true) (hown : s.vm.findClass RX6 = some m.cls) (hml : c.maxLocals = nL) (hlocks : meth.locks = false) (hex : ∀ x ∈ c.exceptionTable.toList, False)
    (hK : CK G s) (hE : XE A s) (hP : va_P G.1 vwCl (Wd C) H) (hS : va_S A s.heap H locs) (hl : lv_has ls nL lv)
    (hcls : Bundle.fit cls = true) (hk : (Cond.classLink RX6 ik cls).before args s = true) (hini : (Cond.initialized cls).before args s = true) (hstr : (is, text) ∈ xStr)
    (h1 : ∀ w ∈ (vx_atS RX6 ic cls exUp).filter goodWord, w ∈ Ts) (h2 : ∀ w ∈ (vx_atS RX6 ic cls exUp).filter (fun w => !goodWord w), w ∈ nW) (hgood : ∀ w ∈ Cond.classLink RX6 ik cls :: Cond.initialized cls :: vx_atS RX6 ic cls exUp, vx_ot w = true)
    (d0 : decode cc pc = .ok (.new ik, 3)) (d3 : decode cc (pc + 3) = .ok (.dup, 1)) (d4 : decode cc (pc + 4) = .ok (.ldc_w is, 3)) (d7 : decode cc (pc + 7) = .ok (.invokespecial ic, 3)) (d10 : decode cc (pc + 10) = .ok (.athrow, 1))
    (hR : 6 ≤ R.frames ∧ (rest.map fun v => v.category).sum + 82 ≤ R.locals ∧ 1 ≤ R.cells ∧ 6 ≤ R.slots) (ho : out = (k, C)) (hc : cls = exN k) : W p l e R s m args below meth c H locs 0 0 (MQx G Wd A s args below out) (F0 m pc ls rest) := by
  obtain ⟨hU, hN, hst, -⟩ := hE
  obtain ⟨sa, hsa⟩ := hst _ hstr
  exact vx_throwSW hx hb hl0 (names := exUp) (mc := 1) (ms := 6) hown hcls exUp_fit hk hini hsa (vx_hat (fun w hw => hts w (h1 w hw)) h2 hK.2.all) hgood hU hN hS (hl.1.trans hml.symm) d0 d3 d4 d7 d10 (fun x hx => (hex x hx).elim) (Nat.lt_of_lt_of_le (by decide) hR.1) hR.2.1 (by omega) (by omega) hlocks
    (fun t _ hz hkp => xc_of hP hS ho hc hz hkp) hS.2.2 (Nat.le_refl _) (Nat.le_refl _)
theorem x_throwS {out : Nat × St} {C : St} {k ik is ic nL : Nat} {cls text : String} {lv : List (Nat × Value)} {Ts : List Cond} (hx : p.tables.exec = Jvm.exec) (hb : c.code = cc) (hl0 : l.stackTraces = false) (hts : ∀ w ∈ Ts, w.before args s = true) (hown : s.vm.findClass RX6 = some m.cls) (hml : c.maxLocals = nL) (hlocks : meth.locks = false) (hex : ∀ x ∈ c.exceptionTable.toList, False)
    (hK : CK G s) (hE : XE A s) (hP : va_P G.1 vwCl (Wd C) H) (hS : va_S A s.heap H locs) (hl : lv_has ls nL lv)
    (hcls : Bundle.fit cls = true) (hk : (Cond.classLink RX6 ik cls).before args s = true) (hini : (Cond.initialized cls).before args s = true) (hstr : (is, text) ∈ xStr)
    (h1 : ∀ w ∈ (vx_atS RX6 ic cls exUp).filter goodWord, w ∈ Ts) (h2 : ∀ w ∈ (vx_atS RX6 ic cls exUp).filter (fun w => !goodWord w), w ∈ nW) (hgood : ∀ w ∈ Cond.classLink RX6 ik cls :: Cond.initialized cls :: vx_atS RX6 ic cls exUp, vx_ot w = true)
    (d0 : decode cc pc = .ok (.new ik, 3)) (d3 : decode cc (pc + 3) = .ok (.dup, 1)) (d4 : decode cc (pc + 4) = .ok (.ldc is, 2)) (d7 : decode cc (pc + 6) = .ok (.invokespecial ic, 3)) (d10 : decode cc (pc + 9) = .ok (.athrow, 1))
    (hR : 6 ≤ R.frames ∧ (rest.map fun v => v.category).sum + 82 ≤ R.locals ∧ 1 ≤ R.cells ∧ 6 ≤ R.slots) (ho : out = (k, C)) (hc : cls = exN k) : W p l e R s m args below meth c H locs 0 0 (MQx G Wd A s args below out) (F0 m pc ls rest) := by
  obtain ⟨hU, hN, hst, -⟩ := hE
  obtain ⟨sa, hsa⟩ := hst _ hstr
  exact vx_throwS hx hb hl0 (names := exUp) (mc := 1) (ms := 6) hown hcls exUp_fit hk hini hsa (vx_hat (fun w hw => hts w (h1 w hw)) h2 hK.2.all) hgood hU hN hS (hl.1.trans hml.symm) d0 d3 d4 d7 d10 (fun x hx => (hex x hx).elim) (Nat.lt_of_lt_of_le (by decide) hR.1) hR.2.1 (by omega) (by omega) hlocks
    (fun t _ hz hkp => xc_of hP hS ho hc hz hkp) hS.2.2 (Nat.le_refl _) (Nat.le_refl _)
end XM
/-! NoSuchElementException: its constructor calls the one above by entry 13; what follows goes the way of the library's BundleOwnThrow.lean (ctorThrowS) and of vx_throwSW, for that one class -/
def nseC : String := "java/util/NoSuchElementException"
def nse_own : List Cond := (Bundle.ownAtoms "TreeConfigurator" 126 "java/util/NoSuchElementException" ["java/lang/RuntimeException", "java/lang/Exception"]).map nse_fix
theorem nse_s1 : ∀ x ∈ Bundle.throwableAtoms, x ∈ nse_own := by decide +kernel
theorem nse_s2 : ∀ x ∈ Bundle.throwableSAtoms, x ∈ nse_own := by decide +kernel
theorem nse_s3 : ∀ x ∈ Bundle.passSAtoms "java/util/NoSuchElementException" "java/lang/RuntimeException" 13 nse_six, x ∈ nse_own := by decide +kernel
theorem nse_s4 : ∀ x ∈ Bundle.chainSAtoms "java/lang/RuntimeException" ["java/lang/Exception"], x ∈ nse_own := by decide +kernel
theorem nse_0 : decode nse_six 0 = .ok (.aload_n 0, 1) := by decide +kernel
theorem nse_1 : decode nse_six 1 = .ok (.aload_n 1, 1) := by decide +kernel
theorem nse_2 : decode nse_six 2 = .ok (.invokespecial 13, 3) := by decide +kernel
theorem nse_5 : decode nse_six 5 = .ok (.return_, 1) := by decide +kernel
set_option maxHeartbeats 4000000 in
theorem nse_ctor {p : Program} {l : Launch} {e : Env} {R : Room} {s : State} {m₀ : MethodId} {args : Array Value} {below : List Frame} {meth : Method} {c : Code} {W : State} {locs : List Loc} {cells slots : Nat} (X : Stand p l e R s m₀ args below meth c W locs cells slots) (hexec : p.tables.exec = Jvm.exec) (htr : e.platform.stackTraces = false)
    (hown : s.vm.findClass "TreeConfigurator" = some m₀.cls) (h : ∀ a ∈ nse_own, a.before args s = true)
    (hlocs : ∀ x ∈ locs, ∀ cell, s.heap[x.base]? = some cell → cell.vm.isStatics = false)
    {a : Addr} {cX : ClassId} {kX : Class} (hfoundX : s.vm.findClass "java/util/NoSuchElementException" = some cX) (hkX : s.vm.classes[cX]? = some kX) (hcell : W.heap[a]? = some (freshCell cX kX)) (hnew : s.heap.size ≤ a)
    {msg : Value} (hmsg : msg.isRef = true)
    {g : JFrame} (hg : g.method = m₀) (hsize : g.locals.size = c.maxLocals) (hlocked : g.locked = none) (hentered : g.entered = []) {rest : List Value} (hstack : g.stack = msg :: .ref a :: .ref a :: rest)
    (hd6 : decode c.code g.pc = .ok (.invokespecial 126, 3)) (hd9 : decode c.code (g.pc + 3) = .ok (.athrow, 1)) (hout : ∀ x ∈ c.exceptionTable.toList, covers x (g.pc + 3) = false)
    (hRframes : 5 < R.frames) (hRlocals : 2 * g.monitorRoom + ((Value.ref a :: rest).map fun v => v.category).sum + 81 ≤ R.locals) (hlocks : meth.locks = false) :
    ∃ U : State, Steps p.tables e below (W.setTop g) U ∧ U.status = .running ∧ Ended U below (.threw a) ∧ s.WarmedH U.vm ∧ s.sameButNew ({ U with vm := s.vm } : State) locs cells slots ∧
      ∃ ce : Cell, U.heap[a]? = some ce ∧ s.vm.findClass "java/util/NoSuchElementException" = some ce.cls ∧ ce.vm = .none := by
  have howns : e.platform.frameOwnsMonitors = true := by rw [X.admits.platform]
  have hfin : e.platform.finalization = false := by rw [X.admits.platform]
  have hpl : e.platform.magicAccessors = ({} : Platform).magicAccessors := by rw [X.admits.platform]
  have at' : ∀ x, x ∈ nse_own → x.holds args s none s [] = true := fun x hx => h x hx
  obtain ⟨T, Z0, L, -, Y⟩ := ThrowableC.of_atoms (args := args) howns hfin hpl (fun x hx => h x (nse_s1 x hx))
  obtain ⟨Z, M, LZ, LM, hnZ⟩ := Init0T.ofS_atoms (args := args) hpl L Y (fun x hx => h x (nse_s2 x hx))
  obtain ⟨P0, L0, hP1m, hs0⟩ := PassC.ofS_atoms (args := args) (s := s) hpl (X := "java/util/NoSuchElementException") (Y := "java/lang/RuntimeException") (by decide +kernel) (by decide +kernel) nse_0 nse_1 nse_2 nse_5 (fun x hx => h x (nse_s3 x hx))
  obtain ⟨P', Ps', hlen', L', hL', hm', hsup', hpass'⟩ := Bundle.chainS (args := args) hpl hnZ ["java/lang/Exception"] "java/lang/RuntimeException" (by decide +kernel) (by decide +kernel) (fun x hx => h x (nse_s4 x hx))
  have hlink1 : P0.sup = firstOf (Z.m T.toThrowableT) ((P' :: Ps').map (·.toPassT)) := Option.some.inj (hs0.symm.trans hm')
  have hlink : PassesOn (Z.m T.toThrowableT) ((P' :: Ps').map (·.toPassT)) := ⟨hsup', hpass'⟩
  have hlen : (P' :: Ps').length = 2 := by rw [List.length_cons, hlen']; rfl
  have hL : ∀ P, P ∈ P' :: Ps' → P.LinksS e.platform s := fun P hP => by
    rcases List.mem_cons.mp hP with rfl | hP
    · exact L'
    · exact hL' P hP
  generalize P' :: Ps' = Ps at hlink1 hlink hlen hL
  have hfound : s.vm.findClass "java/util/NoSuchElementException" = some P0.m.cls := findClass_of_methodNamed hP1m
  cases Option.some.inj (hfoundX.symm.trans hfound)
  obtain ⟨c1, kX', hc1, hk, hord, -, -, hn6⟩ := Cond.instantiable_spec (at' (.instantiable "java/util/NoSuchElementException" 6) (by decide +kernel))
  cases Option.some.inj (hc1.symm.trans hfound)
  cases Option.some.inj (hkX.symm.trans hk)
  have hsel0 : selectMethod e.platform s.vm P0.m.cls T.fill0 = .method T.fill0 := by
    obtain ⟨c2, r2, m2, q1, q2, q3, q4, -⟩ := Cond.selects_spec (at' (.selects "java/util/NoSuchElementException" Bundle.tFill0 Bundle.tFill0) (by decide +kernel))
    cases Option.some.inj (q1.symm.trans hfound)
    cases Option.some.inj (q2.symm.trans (State.methodFound?_of_named Y.fill0 (by decide)))
    cases Option.some.inj (q3.symm.trans Y.fill0)
    rw [Launch.admits_selectMethod X.admits]; exact q4
  have hselF : selectMethod e.platform s.vm P0.m.cls T.fill = .method T.fill := by
    obtain ⟨c2, r2, m2, q1, q2, q3, q4, -⟩ := Cond.selects_spec (at' (.selects "java/util/NoSuchElementException" Bundle.tFill Bundle.tFill) (by decide +kernel))
    cases Option.some.inj (q1.symm.trans hfound)
    cases Option.some.inj (q2.symm.trans (State.methodFound?_of_named Y.fill (by decide)))
    cases Option.some.inj (q3.symm.trans Y.fill)
    rw [Launch.admits_selectMethod X.admits]; exact q4
  obtain ⟨cellS0, hcS0, hiss⟩ := Y.statics
  obtain ⟨u0, hu0⟩ := Cond.staticRefV Y.unassigned L.unassignedStatic L.statics hcS0 hiss (at' (.isRef (.static Bundle.tN "UNASSIGNED_STACK" Bundle.steD)) (by decide +kernel))
  obtain ⟨sen, hsen⟩ := Cond.staticRefV Y.sentinel L.sentinelStatic L.statics hcS0 hiss (at' (.isRef (.static Bundle.tN "SUPPRESSED_SENTINEL" Bundle.listD)) (by decide +kernel))
  obtain ⟨ci198, i198, fB, hk198, hg198, ha198, hsB, -, hnB, htB, hffB⟩ := Cond.ownField (t := .object "java/lang/Object") Y.found L.cls (by decide +kernel) (at' (.fieldLink Bundle.tN 198 Bundle.tN "backtrace" "Ljava/lang/Object;") (by decide +kernel)) (at' (.lays Bundle.tN Bundle.tN "backtrace" "Ljava/lang/Object;") (by decide +kernel)) e.platform hpl
  obtain ⟨cellS, hcS', heS, -, hkeep⟩ := X.same.2.2.2.2.2 T.aS cellS0 hcS0
  have hcellS : W.heap[T.aS]? = some cellS := hcS'
  have hout' : ∀ i, (⟨T.aS, i⟩ : Loc) ∉ locs := fun i hmem => by
    have := hlocs _ hmem cellS0 hcS0
    rw [hiss] at this; cases this
  have hknownS : cellS.vm ≠ .unknown := by
    rw [heS]; intro hu
    rw [show cellS0.vm = .unknown from hu] at hiss
    cases hiss
  have hneS : T.aS ≠ a := Nat.ne_of_lt (Nat.lt_of_lt_of_le (Array.getElem?_eq_some_iff.mp hcS0).1 hnew)
  obtain ⟨iM, hffM⟩ := Y.msg
  obtain ⟨tyC, dC, hdC, hdnC⟩ := Cond.laysAt hfound hk Y.cause (at' (.lays "java/util/NoSuchElementException" Bundle.tN "cause" "Ljava/lang/Throwable;") (by decide +kernel))
  obtain ⟨tyS, dS, hdS, hdnS⟩ := Cond.laysAt hfound hk Y.stack (at' (.lays "java/util/NoSuchElementException" Bundle.tN "stackTrace" Bundle.steD) (by decide +kernel))
  obtain ⟨tyP, dP, hdP, hdnP⟩ := Cond.laysAt hfound hk Y.supp (at' (.lays "java/util/NoSuchElementException" Bundle.tN "suppressedExceptions" Bundle.listD) (by decide +kernel))
  obtain ⟨tyM, dM, hdM, hdnM⟩ := Cond.laysAt hfound hk hffM (at' (.lays "java/util/NoSuchElementException" Bundle.tN "detailMessage" "Ljava/lang/String;") (by decide +kernel))
  obtain ⟨tyB, dB, hdB, hdnB⟩ := Cond.laysAt hfound hk hffB (at' (.lays "java/util/NoSuchElementException" Bundle.tN "backtrace" "Ljava/lang/Object;") (by decide +kernel))
  have bC := Cond.laysApart hdB hdC hdnB hdnC (by rw [hnB, Y.causeName]; decide)
  have bS := Cond.laysApart hdB hdS hdnB hdnS (by rw [hnB, Y.stackName]; decide)
  have bP := Cond.laysApart hdB hdP hdnB hdnP (by rw [hnB, Y.suppName]; decide)
  have hskip : SkipFacts T e.platform s (fun u => u) u0 ((preparedCellV T.toThrowableT (freshCell P0.m.cls kX) a u0 sen).withEntry W.cur) :=
    ⟨{ ci198 := ci198, i198 := i198, fBack := fB }, ⟨hk198, hg198, ha198, hsB⟩, by
      have := fresh_default (c := P0.m.cls) tyB
      rw [htB] at this
      simpa [preparedCellV, Cell.setSlot, Cell.withEntry, Array.getElem?_setIfInBounds, bC, bS, bP, bC.symm, bS.symm, bP.symm, defaultValue] using this, fun _ _ => rfl⟩
  obtain ⟨tm, methC, cdC, kC, vm₁, hnC, -, -, -, -, -, -, -, hW₁, st1⟩ := Steps.initColdS (tb := p.tables) (e := e) (below := below) (s := s) (U := W) X.here hexec X.warmed hpl hown (t := Bundle.initS "java/util/NoSuchElementException") rfl rfl (by decide +kernel)
    (at' (.methodLink "TreeConfigurator" 126 (Bundle.initS "java/util/NoSuchElementException")) (by decide +kernel)) (h (.instanceMethod (Bundle.initS "java/util/NoSuchElementException")) (by decide +kernel)) (bytes := nse_six) (maxL := 2) (h (.code (Bundle.initS "java/util/NoSuchElementException") nse_six 2 none) (by decide +kernel))
    (f := g) hg (a := a) (msg := msg) (rest := .ref a :: rest) hstack hd6
  cases Option.some.inj (hnC.symm.trans hP1m)
  have X₁ := X.noted hW₁
  obtain ⟨vm₂, X₂, st2⟩ := X₁.ctorMessageOffV hexec (g := { g with stack := .ref a :: rest }) hg hsize T L Z LZ M LM (P0 :: Ps)
    (fun P hP => by rcases List.mem_cons.mp hP with rfl | hP; exact L0; exact hL P hP) ⟨hlink1, hlink⟩ (u0 := u0) (sen := sen) (self := a) hmsg (cell := freshCell P0.m.cls kX) (cellS := cellS)
    hcell (fun _ => by simp) (by simp) rfl rfl hsel0 hselF hcellS hneS hknownS (by rw [hkeep _ (hout' _)]; exact hu0) (by rw [hkeep _ (hout' _)]; exact hsen)
    (Takes.of_laid hk hord tyC (by rw [Y.causeType]; rfl)) (Takes.of_laid hk hord tyS (by rw [Y.stackType]; exact fits_refV_array _ u0)) (Takes.of_laid hk hord tyP (by rw [Y.suppType]; exact fits_refV_object _ sen))
    (Takes.of_laid hk hord tyM (by rw [Y.msgType]; exact fits_refV_object _ ⟨msg, hmsg⟩)) Y.objLocals hskip htr [] hd6
    (by simp only [List.length_cons, hlen]; omega) (by simp only [List.length_cons, hlen]; exact hRlocals)
  obtain ⟨hwalk, hrun, hended, hWU, hsame⟩ := X₂.athrowLeaves hexec (g := { g with stack := .ref a :: rest, pc := g.pc + 3 }) hg hlocked hentered hout (a := a) (rest := rest) rfl hd9
  have hlt : a < ((W.setVm vm₁).setVm vm₂).heap.size := (Array.getElem?_eq_some_iff.mp hcell).1
  have hU := heapAt_setCell_self (s := (W.setVm vm₁).setVm vm₂) (plainBareV T.toThrowableT (freshCell P0.m.cls kX) a u0 sen msg) hlt
  refine ⟨_, st1 _ (fun acts => ?_), hrun, hended, hWU, hsame.weaken (fun y hy hlt' => ?_) (Nat.le_refl _) (Nat.le_refl _), _, hU, hfound, rfl⟩
  · rw [doInvoke_state]
    exact st2 _ hwalk
  · rcases List.mem_append.mp hy with h1 | h1
    · exact h1
    · exfalso
      have hb : y.base = a := by
        simp only [List.mem_cons, List.not_mem_nil, or_false] at h1
        rcases h1 with rfl | rfl | rfl | rfl | rfl <;> rfl
      rw [hb] at hlt'
      exact Nat.not_lt.mpr hnew hlt'
theorem nse_xB : ∀ w ∈ (nse_own.filter vx_no).filter (fun w => !goodWord w), w ∈ nW := by decide +kernel
theorem nse_xG : ∀ w ∈ Cond.classLink "TreeConfigurator" 122 "java/util/NoSuchElementException" :: Cond.initialized "java/util/NoSuchElementException" :: nse_own.filter vx_no, vx_ot w = true := by decide +kernel
/-- new NoSuchElementException(text), thrown: from behind the text's loading -/
theorem nse_go {p : Program} {l : Launch} {e : Env} {R : Room} {s : State} {m : MethodId} {args : Array Value} {below : List Frame} {meth : Method} {c : Code} {H : Heap} {locs : List Loc} {pc pe : Nat} {ls : Array Slot} {rest : List Value} {G : GT} {A : Nat → Prop} {Wd : St → va_W} {cc : ByteArray} {out : Nat × St} {C : St} {is nL : Nat} {text : String} {lv : List (Nat × Value)} {Ts : List Cond} (hx : p.tables.exec = Jvm.exec) (hb : c.code = cc) (hl0 : l.stackTraces = false) (hts : ∀ w ∈ Ts, w.before args s = true) (hown : s.vm.findClass RX6 = some m.cls) (hml : c.maxLocals = nL) (hlocks : meth.locks = false) (hex : ∀ x ∈ c.exceptionTable.toList, False)
    (hK : CK G s) (hE : XE A s) (hP : va_P G.1 vwCl (Wd C) H) (hS : va_S A s.heap H locs) (hl : lv_has ls nL lv)
    (hk : (Cond.classLink RX6 122 "java/util/NoSuchElementException").before args s = true) (hini : (Cond.initialized "java/util/NoSuchElementException").before args s = true) (hstr : (is, text) ∈ xStr)
    (h1 : ∀ w ∈ (nse_atS RX6 126).filter goodWord, w ∈ Ts)
    (d0 : decode cc pc = .ok (.new 122, 3)) (d3 : decode cc (pc + 3) = .ok (.dup, 1)) (d4 : (decode cc (pc + 4) = .ok (.ldc is, 2) ∧ pe = pc + 6) ∨ (decode cc (pc + 4) = .ok (.ldc_w is, 3) ∧ pe = pc + 7)) (d7 : decode cc pe = .ok (.invokespecial 126, 3)) (d10 : decode cc (pe + 3) = .ok (.athrow, 1))
    (hR : 6 ≤ R.frames ∧ (rest.map fun v => v.category).sum + 82 ≤ R.locals ∧ 1 ≤ R.cells ∧ 6 ≤ R.slots) (ho : out = (5, C)) : W p l e R s m args below meth c H locs 0 0 (MQx G Wd A s args below out) (F0 m pc ls rest) := by
  obtain ⟨hU, hN, hst, -⟩ := hE
  obtain ⟨sa, hsa⟩ := hst _ hstr
  have hat : ∀ w ∈ nse_own.filter vx_no, w.before args s = true := vx_hat (fun w hw => hts w (h1 w hw)) nse_xB hK.2.all
  intro T hT X
  have htr : e.platform.stackTraces = false := (show e.platform.stackTraces = l.stackTraces by rw [X.admits.platform]).trans hl0
  have Y := vx_rebase X (R' := { frames := R.frames, locals := R.locals, cells := 1, slots := 6 }) (Nat.le_refl _) (Nat.le_refl _) (by show 0 + 1 ≤ R.cells; omega) (by show 0 + 6 ≤ R.slots; omega)
  obtain ⟨s', hA⟩ : ∃ z, z = (T.setVm s.vm).setFrames (.invoking m args :: below) := ⟨_, rfl⟩
  rw [← hA] at Y
  have hvm : s'.vm = s.vm := by rw [hA]; rfl
  have hhp : s'.heap = H := by rw [hA]; exact hT
  have hW0 : s.WarmedH s'.vm := by rw [hvm]; exact State.WarmedH.refl s
  have hat' : ∀ w ∈ nse_own.filter vx_no, w.before args s' = true := fun w hw => vx_ot_at hW0 hvm.symm (nse_xG w (List.mem_cons_of_mem _ (List.mem_cons_of_mem _ hw))) (hat w hw)
  have hk' : (Cond.classLink RX6 122 "java/util/NoSuchElementException").before args s' = true := vx_ot_at hW0 hvm.symm (nse_xG _ List.mem_cons_self) hk
  have hini' : (Cond.initialized "java/util/NoSuchElementException").before args s' = true := vx_ot_at hW0 hvm.symm (nse_xG _ (List.mem_cons_of_mem _ List.mem_cons_self)) hini
  have hU' : vx_Zq Bundle.tN "UNASSIGNED_STACK" Bundle.steD A s' s'.heap := by rw [hhp]; exact vx_Zq.moved hW0.alike (hU.kept hS.2.1)
  have hN' : vx_Zq Bundle.tN "SUPPRESSED_SENTINEL" Bundle.listD A s' s'.heap := by rw [hhp]; exact vx_Zq.moved hW0.alike (hN.kept hS.2.1)
  have h : ∀ w ∈ nse_own, w.before args s' = true := vx_own hat' (vx_isRefq hU'.1) (vx_isRefq hN'.1) hU'.2.word hN'.2.word
  have hown' : s'.vm.findClass RX6 = some m.cls := by rw [hvm]; exact hown
  have hins : (Cond.instantiable "java/util/NoSuchElementException" 6).before args s' = true := h _ (by decide +kernel)
  obtain ⟨vm₁, cX, kX, hfX, hkX, -, -, X₁, st1⟩ := Y.newCold hx (own := RX6) (C := "java/util/NoSuchElementException") (index := 122) (n := 6) hown' hk' hins hini'
    (g := F0 m pc ls rest) rfl (by rw [hb]; exact d0) (Nat.le_refl _) (Nat.le_refl _)
  generalize hT1 : (T.setVm vm₁).pushCell { cls := cX, slots := kX.instanceTypes.map defaultValue, vm := .none } = T1 at X₁ st1
  have hcat : (Value.ref T.heap.size).category = 1 := rfl
  have hcellA : T1.heap[T.heap.size]? = some (freshCell cX kX) := by rw [← hT1]; exact State.heap_pushCell_size _ _
  have d3' : decode c.code (pc + 3) = .ok (.dup, 1) := by rw [hb]; exact d3
  have hstr' : vk_R RX6 is text sa s' := vk_R.warm hW0 hsa
  obtain ⟨U, hsteps, hrun, hend, hW, hsame, ce, hce, hcl9, hcv9⟩ := nse_ctor X₁ hx htr hown' h (fun x hx => nomatch hx) hfX hkX hcellA (by rw [hhp, hT]; exact Nat.le_refl _) (msg := .ref sa) rfl
    (g := { method := m, pc := pe, locals := ls, stack := .ref sa :: .ref T.heap.size :: .ref T.heap.size :: rest, locked := none }) rfl (hl.1.trans hml.symm) rfl rfl (rest := rest) rfl
    (by rw [hb]; exact d7) (by rw [hb]; exact d10) (fun x hx => (hex x hx).elim) (Nat.lt_of_lt_of_le (by decide) hR.1) (by have := hR.2.1; show 2 * 0 + _ + 81 ≤ R.locals; simp only [List.map_cons, List.sum_cons, hcat]; omega) hlocks
  obtain ⟨f1, f2⟩ := vx_frame hsame
  rw [hhp] at f1 f2
  have hWs : s.WarmedH U.vm := State.WarmedH.trans hW0 hW
  have hcl : s.vm.findClass "java/util/NoSuchElementException" = some ce.cls := by
    have h9 := hcl9
    rw [hvm] at h9
    exact h9
  have hall : s.sameButNew ({ U with vm := s.vm } : State) locs 1 6 := by
    subst hA
    obtain ⟨e1, e2⟩ := hsame
    rw [State.setFrames_setFrames] at e1
    have h2 : (T.setVm s.vm).sameButNew ({ U with vm := s.vm } : State) [] (0 + 1) (0 + 6) := ⟨e1, e2⟩
    have h3 := X.same.trans h2
    rw [List.append_nil] at h3
    exact h3.mono (Nat.le_refl _) (Nat.le_refl _)
  refine ⟨U, ?_, .threw T.heap.size, hrun, hend, Or.inr ⟨T.heap.size, rfl, "java/util/NoSuchElementException", ce, locs, xc_of hP hS ho rfl f1 (fun q hq => f2 q hq (fun z hz => nomatch hz)), hce, hcv9, hcl, hWs, hall, hS.2.2⟩⟩
  refine st1 _ ?_
  show Steps p.tables e below (T1.setTop { method := m, pc := pc + 3, locals := ls, stack := .ref T.heap.size :: rest, locked := none }) _
  jvm_step X₁.here [X₁.here.top, hx, d3', Value.category]
  rcases d4 with ⟨d4, rfl⟩ | ⟨d4, rfl⟩
  · exact X₁.ldcString hx (own := RX6) (text := text) (index := is) (a := sa) hown' hstr'.1 hstr'.2
      (g := { method := m, pc := pc + 4, locals := ls, stack := .ref T.heap.size :: .ref T.heap.size :: rest, locked := none }) rfl (by rw [hb]; exact d4) _ hsteps
  · exact X₁.ldcStringW hx (own := RX6) (text := text) (index := is) (a := sa) hown' hstr'.1 hstr'.2
      (g := { method := m, pc := pc + 4, locals := ls, stack := .ref T.heap.size :: .ref T.heap.size :: rest, locked := none }) rfl (by rw [hb]; exact d4) _ hsteps
theorem x_throwN {p : Program} {l : Launch} {e : Env} {R : Room} {s : State} {m : MethodId} {args : Array Value} {below : List Frame} {meth : Method} {c : Code} {H : Heap} {locs : List Loc} {pc : Nat} {ls : Array Slot} {rest : List Value} {G : GT} {A : Nat → Prop} {Wd : St → va_W} {cc : ByteArray} {out : Nat × St} {C : St} {is nL : Nat} {text : String} {lv : List (Nat × Value)} {Ts : List Cond} (hx : p.tables.exec = Jvm.exec) (hb : c.code = cc) (hl0 : l.stackTraces = false) (hts : ∀ w ∈ Ts, w.before args s = true) (hown : s.vm.findClass RX6 = some m.cls) (hml : c.maxLocals = nL) (hlocks : meth.locks = false) (hex : ∀ x ∈ c.exceptionTable.toList, False)
    (hK : CK G s) (hE : XE A s) (hP : va_P G.1 vwCl (Wd C) H) (hS : va_S A s.heap H locs) (hl : lv_has ls nL lv)
    (hk : (Cond.classLink RX6 122 "java/util/NoSuchElementException").before args s = true) (hini : (Cond.initialized "java/util/NoSuchElementException").before args s = true) (hstr : (is, text) ∈ xStr)
    (h1 : ∀ w ∈ (nse_atS RX6 126).filter goodWord, w ∈ Ts)
    (d0 : decode cc pc = .ok (.new 122, 3)) (d3 : decode cc (pc + 3) = .ok (.dup, 1)) (d4 : decode cc (pc + 4) = .ok (.ldc is, 2)) (d7 : decode cc (pc + 6) = .ok (.invokespecial 126, 3)) (d10 : decode cc (pc + 9) = .ok (.athrow, 1))
    (hR : 6 ≤ R.frames ∧ (rest.map fun v => v.category).sum + 82 ≤ R.locals ∧ 1 ≤ R.cells ∧ 6 ≤ R.slots) (ho : out = (5, C)) : W p l e R s m args below meth c H locs 0 0 (MQx G Wd A s args below out) (F0 m pc ls rest) := by
  exact nse_go hx hb hl0 hts hown hml hlocks hex hK hE hP hS hl hk hini hstr h1 d0 d3 (Or.inl ⟨d4, rfl⟩) d7 d10 hR ho
theorem x_throwNW {p : Program} {l : Launch} {e : Env} {R : Room} {s : State} {m : MethodId} {args : Array Value} {below : List Frame} {meth : Method} {c : Code} {H : Heap} {locs : List Loc} {pc : Nat} {ls : Array Slot} {rest : List Value} {G : GT} {A : Nat → Prop} {Wd : St → va_W} {cc : ByteArray} {out : Nat × St} {C : St} {is nL : Nat} {text : String} {lv : List (Nat × Value)} {Ts : List Cond} (hx : p.tables.exec = Jvm.exec) (hb : c.code = cc) (hl0 : l.stackTraces = false) (hts : ∀ w ∈ Ts, w.before args s = true) (hown : s.vm.findClass RX6 = some m.cls) (hml : c.maxLocals = nL) (hlocks : meth.locks = false) (hex : ∀ x ∈ c.exceptionTable.toList, False)
    (hK : CK G s) (hE : XE A s) (hP : va_P G.1 vwCl (Wd C) H) (hS : va_S A s.heap H locs) (hl : lv_has ls nL lv)
    (hk : (Cond.classLink RX6 122 "java/util/NoSuchElementException").before args s = true) (hini : (Cond.initialized "java/util/NoSuchElementException").before args s = true) (hstr : (is, text) ∈ xStr)
    (h1 : ∀ w ∈ (nse_atS RX6 126).filter goodWord, w ∈ Ts)
    (d0 : decode cc pc = .ok (.new 122, 3)) (d3 : decode cc (pc + 3) = .ok (.dup, 1)) (d4 : decode cc (pc + 4) = .ok (.ldc_w is, 3)) (d7 : decode cc (pc + 7) = .ok (.invokespecial 126, 3)) (d10 : decode cc (pc + 10) = .ok (.athrow, 1))
    (hR : 6 ≤ R.frames ∧ (rest.map fun v => v.category).sum + 82 ≤ R.locals ∧ 1 ≤ R.cells ∧ 6 ≤ R.slots) (ho : out = (5, C)) : W p l e R s m args below meth c H locs 0 0 (MQx G Wd A s args below out) (F0 m pc ls rest) := by
  exact nse_go hx hb hl0 hts hown hml hlocks hex hK hE hP hS hl hk hini hstr h1 d0 d3 (Or.inr ⟨d4, rfl⟩) d7 d10 hR ho

theorem xB_247 : ∀ w ∈ (vx_atS RX6 247 "java/lang/IndexOutOfBoundsException" exUp).filter (fun w => !goodWord w), w ∈ nW := by decide +kernel
theorem xG_247_243 : ∀ w ∈ Cond.classLink RX6 243 "java/lang/IndexOutOfBoundsException" :: Cond.initialized "java/lang/IndexOutOfBoundsException" :: vx_atS RX6 247 "java/lang/IndexOutOfBoundsException" exUp, vx_ot w = true := by decide +kernel
theorem xB_52 : ∀ w ∈ (vx_atS RX6 52 "java/lang/IllegalArgumentException" exUp).filter (fun w => !goodWord w), w ∈ nW := by decide +kernel
theorem xG_52_48 : ∀ w ∈ Cond.classLink RX6 48 "java/lang/IllegalArgumentException" :: Cond.initialized "java/lang/IllegalArgumentException" :: vx_atS RX6 52 "java/lang/IllegalArgumentException" exUp, vx_ot w = true := by decide +kernel
theorem xB_63 : ∀ w ∈ (vx_atS RX6 63 "java/lang/IllegalStateException" exUp).filter (fun w => !goodWord w), w ∈ nW := by decide +kernel
theorem xG_63_59 : ∀ w ∈ Cond.classLink RX6 59 "java/lang/IllegalStateException" :: Cond.initialized "java/lang/IllegalStateException" :: vx_atS RX6 63 "java/lang/IllegalStateException" exUp, vx_ot w = true := by decide +kernel
theorem xB_86 : ∀ w ∈ (vx_atS RX6 86 "java/lang/UnsupportedOperationException" exUp).filter (fun w => !goodWord w), w ∈ nW := by decide +kernel
theorem xG_86_82 : ∀ w ∈ Cond.classLink RX6 82 "java/lang/UnsupportedOperationException" :: Cond.initialized "java/lang/UnsupportedOperationException" :: vx_atS RX6 86 "java/lang/UnsupportedOperationException" exUp, vx_ot w = true := by decide +kernel
