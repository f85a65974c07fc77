/-! ===== methods that throw ===== -/
def exN : Nat → String
  | 1 => "java/lang/IndexOutOfBoundsException"
  | 2 => "java/lang/IllegalArgumentException"
  | 3 => "java/lang/IllegalStateException"
  | 4 => "java/lang/UnsupportedOperationException"
  | _ => "java/util/NoSuchElementException"
def exUp : List String := ["java/lang/RuntimeException", "java/lang/Exception"]
theorem exUp_fit : ∀ n ∈ exUp, Bundle.fit n = true := by decide +kernel
def xStr : List (Nat × String) := [(50, "the price is out of range"), (61, "there are 12 features"), (84, "there would be no completion"), (91, "a number is out of range"), (124, "there is no such rule"), (130, "the rule is lifted already"), (151, "the feature is not decided"), (179, "the feature is unknown"), (185, "the feature did not become known by a rule"), (209, "the discount is out of range"), (214, "the percentage is out of range"), (216, "the number or the amount is out of range"), (221, "no layer was added"), (248, "there is no such character"), (270, "there is no such feature"), (272, "it is the root"), (274, "two features are the same"), (276, "the feature is decided"), (278, "there is no such set of features"), (280, "there are 20 rules"), (288, "6 layers were added"), (304, "there is no such configuration at all")]
def exK (a : Nat) : Prop := 1 ≤ a ∧ a ≤ 5
/-- what a throw and its catching need of the start: two statics of Throwable, the texts, which class isn't which -/
def XE (A : Nat → Prop) (U : State) : Prop := vx_Zq Bundle.tN "UNASSIGNED_STACK" Bundle.steD A U U.heap ∧ vx_Zq Bundle.tN "SUPPRESSED_SENTINEL" Bundle.listD A U U.heap ∧ (∀ k ∈ xStr, ∃ sa, vk_R RX6 k.1 k.2 sa U) ∧ ∀ a b : Nat, exK a → exK b → a ≠ b → va_Nc (exN a) (exN b) U
theorem XE.at {A A' : Nat → Prop} {s U : State} {H : Heap} {locs : List Loc} (h : XE A s) (hW : s.WarmedH U.vm) (hU : U.heap = H) (hS : va_S A s.heap H locs) (hAA : ∀ q, A' q → A q) : XE A' U := by
  obtain ⟨h1, h2, h3, h4⟩ := h
  refine ⟨?_, ?_, fun k hk => ?_, fun a b ha hb hab => va_Nc.moved hW.alike (h4 a b ha hb hab)⟩
  · rw [hU]; exact vx_Zq.moved hW.alike ((h1.kept hS.2.1).narrow hAA)
  · rw [hU]; exact vx_Zq.moved hW.alike ((h2.kept hS.2.1).narrow hAA)
  · obtain ⟨sa, h⟩ := h3 k hk
    exact ⟨sa, vk_R.warm hW h⟩
theorem XE.calling {A : Nat → Prop} {U : State} {g : JFrame} {mk : MethodId} {a : Array Value} (h : XE A U) : XE A (U.calling g mk a) := by
  obtain ⟨h1, h2, h3, h4⟩ := h
  refine ⟨vx_Zq.moved (u := U) (U := U.calling g mk a) (Vm.Alike.refl U.vm) h1, vx_Zq.moved (u := U) (U := U.calling g mk a) (Vm.Alike.refl U.vm) h2, fun k hk => ?_, fun a b ha hb hab => va_Nc.moved (u := U) (U := U.calling g mk _) (Vm.Alike.refl U.vm) (h4 a b ha hb hab)⟩
  obtain ⟨sa, h⟩ := h3 k hk
  exact ⟨sa, vk_R.same (u := U) (U := U.calling g mk a) rfl h⟩
def xP (G : GT) (W : va_W) (sz : Nat) (U : State) : Prop := wrP G W sz U ∧ XE (va_A W sz) U
theorem xP_blind {G : GT} {W : va_W} {sz : Nat} {av : List Value} : FrameBlind (va_Pc av (xP G W sz)) := fun a U g mk q => ⟨q.1, (wrP_blind (av := av) a U g mk ⟨q.1, q.2.1⟩).2, q.2.2.calling⟩
theorem xS {G : GT} {W : va_W} {s : State} {H : Heap} {locs : List Loc} {A : Nat → Prop} (hP : va_P G.1 vwCl W H) (hD : va_D A W) (hS : va_S A s.heap H locs) (hK : CK G s) (hA : ∀ q, s.heap.size ≤ q → A q) (hE : XE A s) {As : List Value} : PreS s H (va_Pc As (xP G W H.size)) As :=
  ⟨xP_blind, fun U hU hW => ⟨rfl, ⟨by rw [hU], by rw [hU]; exact hP, hK.warm hW, hD.weaken (fun _ _ _ _ => trivial)⟩, hE.at hW hU hS (va_A_in hD hS hA)⟩⟩
theorem xV {G : GT} {W : va_W} {s : State} {H : Heap} {locs : List Loc} {A : Nat → Prop} (hP : va_P G.1 vwCl W H) (hD : va_D A W) (hS : va_S A s.heap H locs) (hK : CK G s) (hA : ∀ q, s.heap.size ≤ q → A q) (hE : XE A s) (ci q0 : Nat) {b : Nat} {q : vw_C} {fs : List Value} (hc : vwCl[ci]? = some q) (he : W[q0]? = some (b, .inr (ci, fs))) {As : List Value} : PreV s H q.1 b (va_Pc (.ref b :: As) (xP G W H.size)) As :=
  ⟨xP_blind, va_recv hK.1 hP hc he, fun U hU hW => ⟨rfl, ⟨by rw [hU], by rw [hU]; exact hP, hK.warm hW, hD.weaken (fun _ _ _ _ => trivial)⟩, hE.at hW hU hS (va_A_in hD hS hA)⟩⟩
/-- it throws: the exception out.1, the world's numbers out.2 -/
def XCf (G : GT) (Wd : St → va_W) (A : Nat → Prop) (out : Nat × St) : String → State → State → Prop := vx_X (fun u : St => u = out.2) (fun E u t => E = exN out.1 ∧ va_P G.1 vwCl (Wd u) t.heap) A
abbrev MQx (G : GT) (Wd : St → va_W) (A : Nat → Prop) (s : State) (args : Array Value) (below : List Frame) (out : Nat × St) : State → Prop := vx_MQ below (fun _ _ _ _ => False) (XCf G Wd A out) args s 1 6 A
theorem nn_ {ε α : Type} {a b : α} (h : some (Sum.inr a : ε ⊕ α) = some (Sum.inr b)) : some a = some b := congrArg some (Sum.inr.inj (Option.some.inj h))
theorem xl_ {ε α : Type} {a b : ε} (h : some (Sum.inl a : ε ⊕ α) = some (Sum.inl b)) : a = b := Sum.inl.inj (Option.some.inj h)
theorem NS.all {s : State} (h : NS s) {args : Array Value} : ∀ w ∈ nW, w.before args s = true := fun w hw => va_Nw.use (nest_tab (nW_ok w hw)) (h w hw)
section XM
variable {p : Program} {l : Launch} {e : Env} {R : Room} {s : State} {m : MethodId} {args : Array Value} {below : List Frame} {meth : Method} {c : Code} {H : Heap} {locs : List Loc}
variable {pc : Nat} {ls : Array Slot} {rest st0 : List Value} {G : GT} {A : Nat → Prop} {W0 : va_W} {Wd : St → va_W}
/-- what a callee throws goes on to the caller -/
theorem x_prop {out e' : Nat × St} (hr : vx_Run p l e R s m args below meth c H locs 0 0 1 6 (F0 m pc ls st0) rest (fun _ _ _ => False) (XCf G Wd (va_A W0 H.size) e') (va_A W0 H.size))
    (hD : va_D A W0) (hS : va_S A s.heap H locs) (hA : ∀ q, s.heap.size ≤ q → A q) (hf : ∀ u, (Wd u).map (·.1) = W0.map (·.1)) (hex : ∀ x ∈ c.exceptionTable.toList, False) (hlocks : meth.locks = false) (he : e' = out) : W p l e R s m args below meth c H locs 0 0 (MQx G Wd A s args below out) (F0 m pc ls st0) := by
  subst he
  have hF := va_A_in hD hS hA
  intro T hT X
  rcases hr T hT X with ⟨v, st₀, t, T', L, h0, X', hL, e1, e2, hF, st⟩ | ⟨q, st₀, t, T', L, E, ce, h0, X', hL, e1, e2, hx, hce, hcv, hcl, st⟩
  · exact hF.elim
  · obtain ⟨u, hu, ⟨hE, hPt⟩, hFr⟩ := hx
    obtain ⟨k1, k2, k3⟩ := vx_keep h0 e1 hS (fun q _ h => hF q h) hF hL hFr
    have hw := vx_out (p := p) (l := l) (e := e) (R := R) (s := s) (m := m) (meth := meth) (c := c) (below := below) (args := args) (cells := 0 + 1) (slots := 0 + 6) (Qc := fun _ _ _ _ => False) (XC := XCf G Wd A e') (mc := 1) (ms := 6) (free := A) (pc := pc) (ls := ls) (rest := rest) (fun x hx => (hex x hx).elim) hlocks (H := T'.heap) (locs := locs ++ L) (q := q) (by rw [e1]; exact hce) hcv hcl
      (fun t' ht' _ => ⟨u, hu, ⟨hE, by rw [ht', e1]; exact hPt⟩, by rw [← ht'] at k3; exact k3.F rfl⟩) k3.2.2 (Nat.le_refl _) (Nat.le_refl _)
    obtain ⟨t2, a1, b1⟩ := hw T' rfl X'
    exact ⟨t2, st.trans a1, b1⟩
theorem xc_of {out : Nat × St} {C : St} {k : Nat} {E : String} {t : State} (hP : va_P G.1 vwCl (Wd C) H) (hS : va_S A s.heap H locs) (h : out = (k, C)) (hE : E = exN k) (hz : H.size ≤ t.heap.size) (hk : ∀ q : Nat, q < H.size → t.heap[q]? = H[q]?) : XCf G Wd A out E s t := by
  subst h
  refine ⟨C, rfl, ⟨hE, fun i q hq => ?_⟩, ⟨Nat.le_trans hS.1 hz, fun q h1 h2 => ?_⟩⟩
  · exact (hP i q hq).kept (hk q.1 (vx_lt hP hq))
  · rw [hk q (Nat.lt_of_lt_of_le h1 hS.1)]; exact hS.2.1 q h1 h2
variable {cc : ByteArray}
theorem x_throwSW {out : Nat × St} {C : St} {k ik is ic nL : Nat} {cls text : String} {lv : List (Nat × Value)} {Ts : List Cond} (hx : p.tables.exec = Jvm.exec) (hb : c.code = cc) (hl0 : l.stackTraces = false) (hts : ∀ w ∈ Ts, w.before args s = true) (hown : s.vm.findClass RX6 = some m.cls) (hml : c.maxLocals = nL) (hlocks : meth.locks = false) (hex : ∀ x ∈ c.exceptionTable.toList, False)
    (hK : CK G s) (hE : XE A s) (hP : va_P G.1 vwCl (Wd C) H) (hS : va_S A s.heap H locs) (hl : lv_has ls nL lv)
    (hcls : Bundle.fit cls = true) (hk : (Cond.classLink RX6 ik cls).before args s = true) (hini : (Cond.initialized cls).before args s = true) (hstr : (is, text) ∈ xStr)
    (h1 : ∀ w ∈ (vx_atS RX6 ic cls exUp).filter goodWord, w ∈ Ts) (h2 : ∀ w ∈ (vx_atS RX6 ic cls exUp).filter (fun w => !goodWord w), w ∈ nW) (hgood : ∀ w ∈ Cond.classLink RX6 ik cls :: Cond.initialized cls :: vx_atS RX6 ic cls exUp, vx_ot w = true)
    (d0 : decode cc pc = .ok (.new ik, 3)) (d3 : decode cc (pc + 3) = .ok (.dup, 1)) (d4 : decode cc (pc + 4) = .ok (.ldc_w is, 3)) (d7 : decode cc (pc + 7) = .ok (.invokespecial ic, 3)) (d10 : decode cc (pc + 10) = .ok (.athrow, 1))
    (hR : 6 ≤ R.frames ∧ (rest.map fun v => v.category).sum + 82 ≤ R.locals ∧ 1 ≤ R.cells ∧ 6 ≤ R.slots) (ho : out = (k, C)) (hc : cls = exN k) : W p l e R s m args below meth c H locs 0 0 (MQx G Wd A s args below out) (F0 m pc ls rest) := by
  obtain ⟨hU, hN, hst, -⟩ := hE
  obtain ⟨sa, hsa⟩ := hst _ hstr
  exact vx_throwSW hx hb hl0 (names := exUp) (mc := 1) (ms := 6) hown hcls exUp_fit hk hini hsa (vx_hat (fun w hw => hts w (h1 w hw)) h2 hK.2.all) hgood hU hN hS (hl.1.trans hml.symm) d0 d3 d4 d7 d10 (fun x hx => (hex x hx).elim) (Nat.lt_of_lt_of_le (by decide) hR.1) hR.2.1 (by omega) (by omega) hlocks
    (fun t _ hz hkp => xc_of hP hS ho hc hz hkp) hS.2.2 (Nat.le_refl _) (Nat.le_refl _)
theorem x_throwS {out : Nat × St} {C : St} {k ik is ic nL : Nat} {cls text : String} {lv : List (Nat × Value)} {Ts : List Cond} (hx : p.tables.exec = Jvm.exec) (hb : c.code = cc) (hl0 : l.stackTraces = false) (hts : ∀ w ∈ Ts, w.before args s = true) (hown : s.vm.findClass RX6 = some m.cls) (hml : c.maxLocals = nL) (hlocks : meth.locks = false) (hex : ∀ x ∈ c.exceptionTable.toList, False)
    (hK : CK G s) (hE : XE A s) (hP : va_P G.1 vwCl (Wd C) H) (hS : va_S A s.heap H locs) (hl : lv_has ls nL lv)
    (hcls : Bundle.fit cls = true) (hk : (Cond.classLink RX6 ik cls).before args s = true) (hini : (Cond.initialized cls).before args s = true) (hstr : (is, text) ∈ xStr)
    (h1 : ∀ w ∈ (vx_atS RX6 ic cls exUp).filter goodWord, w ∈ Ts) (h2 : ∀ w ∈ (vx_atS RX6 ic cls exUp).filter (fun w => !goodWord w), w ∈ nW) (hgood : ∀ w ∈ Cond.classLink RX6 ik cls :: Cond.initialized cls :: vx_atS RX6 ic cls exUp, vx_ot w = true)
    (d0 : decode cc pc = .ok (.new ik, 3)) (d3 : decode cc (pc + 3) = .ok (.dup, 1)) (d4 : decode cc (pc + 4) = .ok (.ldc is, 2)) (d7 : decode cc (pc + 6) = .ok (.invokespecial ic, 3)) (d10 : decode cc (pc + 9) = .ok (.athrow, 1))
    (hR : 6 ≤ R.frames ∧ (rest.map fun v => v.category).sum + 82 ≤ R.locals ∧ 1 ≤ R.cells ∧ 6 ≤ R.slots) (ho : out = (k, C)) (hc : cls = exN k) : W p l e R s m args below meth c H locs 0 0 (MQx G Wd A s args below out) (F0 m pc ls rest) := by
  obtain ⟨hU, hN, hst, -⟩ := hE
  obtain ⟨sa, hsa⟩ := hst _ hstr
  exact vx_throwS hx hb hl0 (names := exUp) (mc := 1) (ms := 6) hown hcls exUp_fit hk hini hsa (vx_hat (fun w hw => hts w (h1 w hw)) h2 hK.2.all) hgood hU hN hS (hl.1.trans hml.symm) d0 d3 d4 d7 d10 (fun x hx => (hex x hx).elim) (Nat.lt_of_lt_of_le (by decide) hR.1) hR.2.1 (by omega) (by omega) hlocks
    (fun t _ hz hkp => xc_of hP hS ho hc hz hkp) hS.2.2 (Nat.le_refl _) (Nat.le_refl _)
end XM
/-- new NoSuchElementException(text), thrown -/
theorem x_throwN {p : Program} {l : Launch} {e : Env} {R : Room} {s : State} {m : MethodId} {args : Array Value} {below : List Frame} {meth : Method} {c : Code} {H : Heap} {locs : List Loc} {pc : Nat} {ls : Array Slot} {rest : List Value} {G : GT} {A : Nat → Prop} {Wd : St → va_W} {cc : ByteArray} {out : Nat × St} {C : St} {is nL : Nat} {text : String} {lv : List (Nat × Value)} {Ts : List Cond} (hx : p.tables.exec = Jvm.exec) (hb : c.code = cc) (hl0 : l.stackTraces = false) (hts : ∀ w ∈ Ts, w.before args s = true) (hown : s.vm.findClass RX6 = some m.cls) (hml : c.maxLocals = nL) (hlocks : meth.locks = false) (hex : ∀ x ∈ c.exceptionTable.toList, False)
    (hK : CK G s) (hE : XE A s) (hP : va_P G.1 vwCl (Wd C) H) (hS : va_S A s.heap H locs) (hl : lv_has ls nL lv)
    (hk : (Cond.classLink RX6 122 "java/util/NoSuchElementException").before args s = true) (hini : (Cond.initialized "java/util/NoSuchElementException").before args s = true) (hstr : (is, text) ∈ xStr)
    (h1 : ∀ w ∈ (nse_atS RX6 126).filter goodWord, w ∈ Ts)
    (d0 : decode cc pc = .ok (.new 122, 3)) (d3 : decode cc (pc + 3) = .ok (.dup, 1)) (d4 : decode cc (pc + 4) = .ok (.ldc is, 2)) (d7 : decode cc (pc + 6) = .ok (.invokespecial 126, 3)) (d10 : decode cc (pc + 9) = .ok (.athrow, 1))
    (hR : 6 ≤ R.frames ∧ (rest.map fun v => v.category).sum + 82 ≤ R.locals ∧ 1 ≤ R.cells ∧ 6 ≤ R.slots) (ho : out = (5, C)) : W p l e R s m args below meth c H locs 0 0 (MQx G Wd A s args below out) (F0 m pc ls rest) := by
  sorry
theorem xB_250 : ∀ w ∈ (vx_atS RX6 250 "java/lang/IndexOutOfBoundsException" exUp).filter (fun w => !goodWord w), w ∈ nW := by decide +kernel
theorem xG_250_246 : ∀ w ∈ Cond.classLink RX6 246 "java/lang/IndexOutOfBoundsException" :: Cond.initialized "java/lang/IndexOutOfBoundsException" :: vx_atS RX6 250 "java/lang/IndexOutOfBoundsException" exUp, vx_ot w = true := by decide +kernel
theorem xB_52 : ∀ w ∈ (vx_atS RX6 52 "java/lang/IllegalArgumentException" exUp).filter (fun w => !goodWord w), w ∈ nW := by decide +kernel
theorem xG_52_48 : ∀ w ∈ Cond.classLink RX6 48 "java/lang/IllegalArgumentException" :: Cond.initialized "java/lang/IllegalArgumentException" :: vx_atS RX6 52 "java/lang/IllegalArgumentException" exUp, vx_ot w = true := by decide +kernel
theorem xB_63 : ∀ w ∈ (vx_atS RX6 63 "java/lang/IllegalStateException" exUp).filter (fun w => !goodWord w), w ∈ nW := by decide +kernel
theorem xG_63_59 : ∀ w ∈ Cond.classLink RX6 59 "java/lang/IllegalStateException" :: Cond.initialized "java/lang/IllegalStateException" :: vx_atS RX6 63 "java/lang/IllegalStateException" exUp, vx_ot w = true := by decide +kernel
theorem xB_86 : ∀ w ∈ (vx_atS RX6 86 "java/lang/UnsupportedOperationException" exUp).filter (fun w => !goodWord w), w ∈ nW := by decide +kernel
theorem xG_86_82 : ∀ w ∈ Cond.classLink RX6 82 "java/lang/UnsupportedOperationException" :: Cond.initialized "java/lang/UnsupportedOperationException" :: vx_atS RX6 86 "java/lang/UnsupportedOperationException" exUp, vx_ot w = true := by decide +kernel
