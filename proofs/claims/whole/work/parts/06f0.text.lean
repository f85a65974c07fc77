/-! ===== the JDK's texts: what they need of statics; a builder's world ===== -/
def dgO (j : Nat) : Value := .int (nI (48 + j % 10))
def dgT (j : Nat) : Value := .int (nI (48 + j / 10))
def ZS (A : Nat → Prop) (U : State) (H : Heap) : Prop :=
  va_Z "java/lang/String" "COMPACT_STRINGS" "Z" (.int 1) A U H ∧
  (∃ t, va_Z "java/lang/Integer" "DigitOnes" "[B" (.ref t) A U H ∧ va_T .byte t 100 dgO A U H) ∧
  (∃ t, va_Z "java/lang/Integer" "DigitTens" "[B" (.ref t) A U H ∧ va_T .byte t 100 dgT A U H) ∧
  va_Zq "jdk/internal/util/Preconditions" "SIOOBE_FORMATTER" "Ljava/util/function/BiFunction;" A U H ∧ va_Nw (.castable "[B" "java/lang/Cloneable") U
theorem ZS.warm {A : Nat → Prop} {s U : State} {H : Heap} (hW : s.WarmedH U.vm) (h : ZS A s H) : ZS A U H := by
  obtain ⟨h1, ⟨t2, h2, h3⟩, ⟨t4, h4, h5⟩, h6, h7⟩ := h
  exact ⟨va_Z.moved hW.alike h1, ⟨t2, va_Z.moved hW.alike h2, va_T.moved hW.alike h3⟩, ⟨t4, va_Z.moved hW.alike h4, va_T.moved hW.alike h5⟩, va_Zq.moved hW.alike h6, va_Nw.warmC hW h7⟩
theorem ZS.same {A : Nat → Prop} {u U : State} {H : Heap} (e : u.vm = U.vm) (hvm : u.vm.Alike U.vm) (h : ZS A u H) : ZS A U H := by
  obtain ⟨h1, ⟨t2, h2, h3⟩, ⟨t4, h4, h5⟩, h6, h7⟩ := h
  exact ⟨va_Z.moved hvm h1, ⟨t2, va_Z.moved hvm h2, va_T.moved hvm h3⟩, ⟨t4, va_Z.moved hvm h4, va_T.moved hvm h5⟩, va_Zq.moved hvm h6, va_Nw.same rfl e h7⟩
theorem ZS.kept {A : Nat → Prop} {U : State} {H H1 : Heap} (h : ZS A U H) (hq : ∀ a : Nat, a < H.size → ¬ A a → H1[a]? = H[a]?) : ZS A U H1 := by
  obtain ⟨h1, ⟨t2, h2, h3⟩, ⟨t4, h4, h5⟩, h6, h7⟩ := h
  exact ⟨h1.kept hq, ⟨t2, h2.kept hq, h3.kept hq⟩, ⟨t4, h4.kept hq, h5.kept hq⟩, h6.kept hq, h7⟩
theorem ZS.narrow {A B : Nat → Prop} {U : State} {H : Heap} (h : ZS A U H) (hAB : ∀ q, B q → A q) : ZS B U H := by
  obtain ⟨h1, ⟨t2, h2, h3⟩, ⟨t4, h4, h5⟩, h6, h7⟩ := h
  exact ⟨h1.narrow hAB, ⟨t2, h2.narrow hAB, h3.narrow hAB⟩, ⟨t4, h4.narrow hAB, h5.narrow hAB⟩, h6.narrow hAB, h7⟩
theorem ZS.at {A A' : Nat → Prop} {s U : State} {H : Heap} {locs : List Loc} (h : ZS A s s.heap) (hW : s.WarmedH U.vm) (hU : U.heap = H) (hS : va_S A s.heap H locs) (hAA : ∀ q, A' q → A q) : ZS A' U U.heap := by
  rw [hU]
  exact ((h.kept hS.2.1).warm hW).narrow hAA
theorem ZS.calling {A : Nat → Prop} {U : State} {g : JFrame} {mk : MethodId} {a : Array Value} (h : ZS A U U.heap) : ZS A (U.calling g mk a) (U.calling g mk a).heap :=
  ZS.same (u := U) (U := U.calling g mk a) rfl (Vm.Alike.refl U.vm) h
/-- a start with a world of its own -/
def zP (G : GT) (W : va_W) (sz : Nat) (U : State) : Prop := wrP G W sz U ∧ ZS (va_A W sz) U U.heap
theorem zP_blind {G : GT} {W : va_W} {sz : Nat} {av : List Value} : FrameBlind (va_Pc av (zP G W sz)) := fun a U g mk q => ⟨q.1, (wrP_blind (av := av) a U g mk ⟨q.1, q.2.1⟩).2, q.2.2.calling⟩
theorem zS {G : GT} {W : va_W} {s : State} {H : Heap} {locs : List Loc} {A : Nat → Prop} (hP : va_P G.1 vwCl W H) (hD : va_D A W) (hS : va_S A s.heap H locs) (hK : CK G s) (hA : ∀ q, s.heap.size ≤ q → A q) (hZ : ZS A s s.heap) {As : List Value} : PreS s H (va_Pc As (zP G W H.size)) As :=
  ⟨zP_blind, fun U hU hW => ⟨rfl, ⟨by rw [hU], by rw [hU]; exact hP, hK.warm hW, hD.weaken (fun _ _ _ _ => trivial)⟩, hZ.at hW hU hS (va_A_in hD hS hA)⟩⟩
theorem zV {G : GT} {W : va_W} {s : State} {H : Heap} {locs : List Loc} {A : Nat → Prop} (hP : va_P G.1 vwCl W H) (hD : va_D A W) (hS : va_S A s.heap H locs) (hK : CK G s) (hA : ∀ q, s.heap.size ≤ q → A q) (hZ : ZS A s s.heap) (ci q0 : Nat) {b : Nat} {q : vw_C} {fs : List Value} (hc : vwCl[ci]? = some q) (he : W[q0]? = some (b, .inr (ci, fs))) {As : List Value} : PreV s H q.1 b (va_Pc (.ref b :: As) (zP G W H.size)) As :=
  ⟨zP_blind, va_recv hK.1 hP hc he, fun U hU hW => ⟨rfl, ⟨by rw [hU], by rw [hU]; exact hP, hK.warm hW, hD.weaken (fun _ _ _ _ => trivial)⟩, hZ.at hW hU hS (va_A_in hD hS hA)⟩⟩
/-- a start that is only read -/
def yP (G : GT) (W : va_W) (U : State) : Prop := roP G W U ∧ ZS (fun _ => False) U U.heap
theorem yP_blind {G : GT} {W : va_W} {av : List Value} : FrameBlind (va_Pc av (yP G W)) := fun a U g mk q => ⟨q.1, (roP_blind (av := av) a U g mk ⟨q.1, q.2.1⟩).2, q.2.2.calling⟩
theorem yS {G : GT} {W : va_W} {s : State} {H : Heap} {locs : List Loc} {A : Nat → Prop} (hP : va_P G.1 vwCl W H) (hS : va_S A s.heap H locs) (hK : CK G s) (hZ : ZS A s s.heap) {As : List Value} : PreS s H (va_Pc As (yP G W)) As :=
  ⟨yP_blind, fun U hU hW => ⟨rfl, ⟨by rw [hU]; exact hP, hK.warm hW⟩, hZ.at hW hU hS (fun _ h => h.elim)⟩⟩
theorem yV {G : GT} {W : va_W} {s : State} {H : Heap} {locs : List Loc} {A : Nat → Prop} (hP : va_P G.1 vwCl W H) (hS : va_S A s.heap H locs) (hK : CK G s) (hZ : ZS A s s.heap) (ci q0 : Nat) {b : Nat} {q : vw_C} {fs : List Value} (hc : vwCl[ci]? = some q) (he : W[q0]? = some (b, .inr (ci, fs))) {As : List Value} : PreV s H q.1 b (va_Pc (.ref b :: As) (yP G W)) As :=
  ⟨yP_blind, va_recv hK.1 hP hc he, fun U hU hW => ⟨rfl, ⟨by rw [hU]; exact hP, hK.warm hW⟩, hZ.at hW hU hS (fun _ h => h.elim)⟩⟩
section JC
variable {p : Program} {l : Launch} {e : Env} {R : Room} {s : State} {m : MethodId} {args : Array Value} {below : List Frame} {meth : Method} {c : Code} {H : Heap} {locs : List Loc} {cells slots mc ms : Nat} {Q : State → Prop}
variable {pc : Nat} {ls : Array Slot} {rest st0 : List Value} {a : Array Value} {G : GT} {A : Nat → Prop} {ws wc wr : va_W} {S : Type}
/-- calls that have a part of the world, and leave another in its place -/
theorem j_v {post : S → Prop} {Wd : S → va_W} (hr : va_Run p l e R s m args below meth c H locs cells slots mc ms (F0 m pc ls st0) rest (va_Qv post (fun u t => va_P G.1 vwCl (Wd u) t.heap ∧ va_D (va_A wc H.size) (Wd u)) (va_A wc H.size) a) (va_A wc H.size))
    (hP : va_P G.1 vwCl ws H) (hD : va_D A ws) (hS : va_S A s.heap H locs) (hA : ∀ q, s.heap.size ≤ q → A q) (isC isR : List Nat) (hC : isC.map (fun i => ws[i]?) = wc.map some) (hR : isR.map (fun i => ws[i]?) = wr.map some) (hn : va_nd isR = true) (hdis : ∀ i ∈ isR, i ∉ isC)
    (kk : ∀ (u : S) (H : Heap) (locs : List Loc), post u → va_P G.1 vwCl (wr ++ Wd u) H → va_D A (wr ++ Wd u) → va_S A s.heap H locs → W p l e R s m args below meth c H locs (cells + mc) (slots + ms) Q (F0 m (pc + 3) ls rest)) : W p l e R s m args below meth c H locs cells slots Q (F0 m pc ls st0) := by
  have hF := va_free hD hS hA isC hC
  refine va_callv hr hS (fun q _ h => hF q h) hF (fun u t H1 locs1 ht hvm hp hB hz hk hS1 => ?_)
  obtain ⟨hP1, hD1⟩ := hB
  rw [ht] at hP1
  obtain ⟨hP2, hD2⟩ := va_join hP hD isC isR hC hR hn hdis hk hF hP1 hD1
  exact kk u H1 locs1 hp hP2 hD2 hS1
theorem j_i {post : Int32 → S → Prop} {Wd : S → va_W} (hr : va_Run p l e R s m args below meth c H locs cells slots mc ms (F0 m pc ls st0) rest (va_Qi post (fun u t => va_P G.1 vwCl (Wd u) t.heap ∧ va_D (va_A wc H.size) (Wd u)) (va_A wc H.size) a) (va_A wc H.size))
    (hP : va_P G.1 vwCl ws H) (hD : va_D A ws) (hS : va_S A s.heap H locs) (hA : ∀ q, s.heap.size ≤ q → A q) (isC isR : List Nat) (hC : isC.map (fun i => ws[i]?) = wc.map some) (hR : isR.map (fun i => ws[i]?) = wr.map some) (hn : va_nd isR = true) (hdis : ∀ i ∈ isR, i ∉ isC)
    (kk : ∀ (r : Int32) (u : S) (H : Heap) (locs : List Loc), post r u → va_P G.1 vwCl (wr ++ Wd u) H → va_D A (wr ++ Wd u) → va_S A s.heap H locs → W p l e R s m args below meth c H locs (cells + mc) (slots + ms) Q (F0 m (pc + 3) ls (.int r :: rest))) : W p l e R s m args below meth c H locs cells slots Q (F0 m pc ls st0) := by
  have hF := va_free hD hS hA isC hC
  refine va_calli hr hS (fun q _ h => hF q h) hF (fun r u t H1 locs1 ht hvm hp hB hz hk hS1 => ?_)
  obtain ⟨hP1, hD1⟩ := hB
  rw [ht] at hP1
  obtain ⟨hP2, hD2⟩ := va_join hP hD isC isR hC hR hn hdis hk hF hP1 hD1
  exact kk r u H1 locs1 hp hP2 hD2 hS1
theorem j_r {post : S → Prop} {Wd : S → Nat → va_W} (hr : va_Run p l e R s m args below meth c H locs cells slots mc ms (F0 m pc ls st0) rest (va_Qr post (fun u r t => va_P G.1 vwCl (Wd u r) t.heap ∧ va_D (va_A wc H.size) (Wd u r)) (va_A wc H.size) a) (va_A wc H.size))
    (hP : va_P G.1 vwCl ws H) (hD : va_D A ws) (hS : va_S A s.heap H locs) (hA : ∀ q, s.heap.size ≤ q → A q) (isC isR : List Nat) (hC : isC.map (fun i => ws[i]?) = wc.map some) (hR : isR.map (fun i => ws[i]?) = wr.map some) (hn : va_nd isR = true) (hdis : ∀ i ∈ isR, i ∉ isC)
    (kk : ∀ (u : S) (r : Nat) (H : Heap) (locs : List Loc), post u → va_P G.1 vwCl (wr ++ Wd u r) H → va_D A (wr ++ Wd u r) → va_S A s.heap H locs → W p l e R s m args below meth c H locs (cells + mc) (slots + ms) Q (F0 m (pc + 3) ls (.ref r :: rest))) : W p l e R s m args below meth c H locs cells slots Q (F0 m pc ls st0) := by
  have hF := va_free hD hS hA isC hC
  refine va_callr hr hS (fun q _ h => hF q h) hF (fun u r t H1 locs1 ht hvm hp hB hz hk hS1 => ?_)
  obtain ⟨hP1, hD1⟩ := hB
  rw [ht] at hP1
  obtain ⟨hP2, hD2⟩ := va_join hP hD isC isR hC hR hn hdis hk hF hP1 hD1
  exact kk u r H1 locs1 hp hP2 hD2 hS1
end JC
/-- a fresh row of bytes is of the row class known -/
theorem tyB {G : GT} {s : State} {cA : ClassId} (h : va_K G.1 vwCl (tyL G ++ [(cA, .byte)]) s) : cA = G.2 4 := by
  have h1 := (h.2 4 (G.2 4, .byte) rfl).2
  have h2 := (h.2 5 (cA, .byte) rfl).2
  exact Option.some.inj (h2.symm.trans h1)
def zr (_ : Nat) : Int32 := 0
abbrev bld (q b n : Nat) : Nat × va_E := (q, .inr (1, [.ref b, .int 0, .int 0, .int (nI n)]))
abbrev byt (G : GT) (b m : Nat) (a : Nat → Int32) : Nat × va_E := (b, .inl (G.2 4, m, .inl a))
abbrev str (q b : Nat) : Nat × va_E := (q, .inr (0, [.ref b, .int 0, .int 0, .int 0]))
/-- letters -/
def Asc (a : Nat → Int32) : Prop := ∀ i, ∃ k, k < 128 ∧ a i = nI k
theorem asc_zr : Asc zr := fun _ => ⟨0, by decide, rfl⟩
theorem asc_up {a : Nat → Int32} (h : Asc a) (j : Nat) {k : Nat} (hk : k < 128) : Asc (upd a j (nI k)) := fun i => by
  unfold upd
  split
  · exact ⟨k, hk, rfl⟩
  · exact h i
theorem asc_cpy {a g : Nat → Int32} (h : Asc a) (hg : Asc g) (x y n : Nat) : Asc (va_cpy a g x y n) := fun i => by
  by_cases q : y ≤ i ∧ i < y + n
  · rw [pk_cpy_in q.1 q.2]; exact h _
  · rw [pk_cpy_out (by omega)]; exact hg i
theorem byt7 : ∀ k, k < 128 → (nI k).toInt8.toInt32 = nI k ∧ vp_nar .byte (nI k) = nI k ∧ ((nI k &&& 255).toUInt32 % 65536).toInt32 = nI k ∧ fits .byte (.int (nI k)) = true ∧ narrow .char (.int (nI k)) = .int (nI k) := by decide +kernel
theorem asc_fit {a : Nat → Int32} (h : Asc a) (i : Nat) : fits .byte (.int (a i)) = true := by
  obtain ⟨k, hk, e⟩ := h i
  rw [e]; exact (byt7 k hk).2.2.2.1
/-- a builder's room -/
def cp (m : Nat) : Prop := m = 16 ∨ m = 34 ∨ m = 70
theorem cp_70 {m : Nat} (h : cp m) : 16 ≤ m ∧ m ≤ 70 := by unfold cp at h; omega
theorem cp_up {m k : Nat} (h : cp m) (hk : k ≤ 70) (hm : m < k) : cp (2 * m + 2) := by unfold cp at h ⊢; omega
theorem mxI {x y : Nat} (h : x ≤ y) (hy : y < 2 ^ 31) : (if nI x < nI y then nI y else nI x) = nI y := by
  by_cases q : x < y
  · rw [if_pos (nI_lt q hy)]
  · rw [if_neg (nI_nlt (by omega) (by omega)), show x = y by omega]
theorem mnI {x y : Nat} (h : x ≤ y) (hy : y < 2 ^ 31) : (if nI y < nI x then nI y else nI x) = nI x := if_neg (nI_nlt h (by omega))
def Sr (b : Nat) : Array Value → State → Outcome → State → Prop := fun _ st o t => o = .returned (some (.ref b)) ∧ t.heap = st.heap
section JR
variable {p : Program} {l : Launch} {e : Env} {R : Room} {s : State} {m : MethodId} {args : Array Value} {below : List Frame} {meth : Method} {c : Code} {H : Heap} {locs : List Loc} {cells slots : Nat} {Q : State → Prop}
variable {pc : Nat} {ls : Array Slot} {rest st0 : List Value} {a : Array Value}
theorem ro_r {b : Nat} (hr : va_Run p l e R s m args below meth c H locs cells slots 0 0 (F0 m pc ls st0) rest (Sr b a) (fun _ => False))
    (kk : W p l e R s m args below meth c H locs cells slots Q (F0 m (pc + 3) ls (.ref b :: rest))) : W p l e R s m args below meth c H locs cells slots Q (F0 m pc ls st0) := by
  intro T hT X
  obtain ⟨v, st₀, t, T', L, h0, X', hL, e1, -, ⟨hv, hh⟩, st⟩ := hr T hT X
  cases hv
  obtain ⟨t2, a1, b1⟩ := kk T' (by rw [e1, hh, h0]) (Stand.forget X' (fun q h => (hL q h).elim))
  exact ⟨t2, st t2 a1, b1⟩
end JR
theorem mnI2 {x y : Nat} (h : y ≤ x) (hx : x < 2 ^ 31) : (if nI y < nI x then nI y else nI x) = nI y := by
  by_cases q : y < x
  · rw [if_pos (nI_lt q hx)]
  · rw [if_neg (nI_nlt (by omega) (by omega)), show x = y by omega]
theorem subLe {k m : Nat} (h : k ≤ m) (hm : m < 2 ^ 30) : nI k - nI m ≤ 0 := by
  rw [Int32.le_iff_toInt_le, pk_sub_toInt (by omega) (by omega), Int32.toInt_zero]
  omega
/-- a feature's digits -/
def dgs (f : Nat) : Nat := if f < 10 then 1 else 2
def gcs (a : Nat → Int32) (k f : Nat) : Nat → Int32 := if f < 10 then upd a (k - 1) (nI (48 + f)) else upd (upd a (k - 1) (nI (38 + f))) (k - 2) (nI 49)
theorem dgs_le (f : Nat) : 1 ≤ dgs f ∧ dgs f ≤ 2 := by unfold dgs; split <;> omega
theorem asc_gcs {a : Nat → Int32} (h : Asc a) (k : Nat) {f : Nat} (hf : f < 12) : Asc (gcs a k f) := by
  unfold gcs
  split
  · exact asc_up h _ (by omega)
  · exact asc_up (asc_up h _ (by omega)) _ (by decide)
theorem neg12 : ∀ f, f < 12 → (f < 10 → ¬ -nI f ≤ -10 ∧ -9 ≤ -nI f) ∧ (10 ≤ f → -nI f ≤ -10 ∧ ¬ -nI f ≤ -100 ∧ ¬ -9 ≤ -nI f) ∧ (-100 : Int32) < -nI f ∧ - -nI f = nI f ∧ ¬ nI f < 0 := by decide +kernel
