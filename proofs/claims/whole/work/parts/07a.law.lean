/-! ===== a call that has a part of the world for its own ===== -/
theorem va_P_iff {D : va_G} {cl : List vw_C} {ws : va_W} {H : Heap} : va_P D cl ws H ↔ ∀ q ∈ ws, va_at D cl q H := by
  constructor
  · intro h q hq
    obtain ⟨k, hk⟩ := List.getElem?_of_mem hq
    exact h k q hk
  · intro h k q hk
    exact h q (List.mem_of_getElem? hk)
theorem fr_mid {D : va_G} {cl : List vw_C} {H : Heap} (L1 : va_W) {W0 : va_W} (L2 : va_W) (h : va_P D cl (L1 ++ (W0 ++ L2)) H) : va_P D cl W0 H :=
  va_P_iff.mpr fun q hq => va_P_iff.mp h q (List.mem_append_right _ (List.mem_append_left _ hq))
theorem fr_ix (L1 : va_W) {W0 : va_W} (L2 : va_W) {k : Nat} {q : Nat × va_E} (h : W0[k]? = some q) : (L1 ++ (W0 ++ L2))[L1.length + k]? = some q := by
  rw [List.getElem?_append_right (by omega), Nat.add_sub_cancel_left, List.getElem?_append_left (List.getElem?_eq_some_iff.mp h).1]
  exact h
theorem fr_midD {A : Nat → Prop} (L1 : va_W) {W0 : va_W} (L2 : va_W) (h : va_D A (L1 ++ (W0 ++ L2))) : va_D A W0 := by
  refine ⟨fun i j p q hi hj e => ?_, fun k q hk => h.2 _ q (fr_ix L1 L2 hk)⟩
  have := h.1 _ _ p q (fr_ix L1 L2 hi) (fr_ix L1 L2 hj) e
  omega
theorem fr_out {A : Nat → Prop} {D : va_G} {cl : List vw_C} {H : Heap} (L1 : va_W) {W0 : va_W} (L2 : va_W) (hP : va_P D cl (L1 ++ (W0 ++ L2)) H) (hD : va_D A (L1 ++ (W0 ++ L2))) {q : Nat × va_E} (hq : q ∈ L1 ∨ q ∈ L2) : q.1 < H.size ∧ ¬ va_A W0 H.size q.1 := by
  have hm : q ∈ L1 ++ (W0 ++ L2) := hq.elim (fun h => List.mem_append_left _ h) (fun h => List.mem_append_right _ (List.mem_append_right _ h))
  have hl := (va_P_iff.mp hP q hm).lt
  refine ⟨hl, fun h => ?_⟩
  rcases h with ⟨k, e, hk⟩ | h
  · have h1 := fr_ix L1 L2 hk
    have hkl : k < W0.length := (List.getElem?_eq_some_iff.mp hk).1
    rcases hq with hq | hq
    · obtain ⟨j, hj⟩ := List.getElem?_of_mem hq
      have hjl : j < L1.length := (List.getElem?_eq_some_iff.mp hj).1
      have h2 : (L1 ++ (W0 ++ L2))[j]? = some q := by rw [List.getElem?_append_left hjl]; exact hj
      have := hD.1 _ _ _ _ h2 h1 rfl
      omega
    · obtain ⟨j, hj⟩ := List.getElem?_of_mem hq
      have h2 : (L1 ++ (W0 ++ L2))[L1.length + (W0.length + j)]? = some q := by
        rw [List.getElem?_append_right (by omega), Nat.add_sub_cancel_left, List.getElem?_append_right (by omega), Nat.add_sub_cancel_left]; exact hj
      have := hD.1 _ _ _ _ h2 h1 rfl
      omega
  · omega
theorem fr_back {A : Nat → Prop} {D : va_G} {cl : List vw_C} {H H1 : Heap} (L1 : va_W) {W0 W1 : va_W} (L2 : va_W) (hP : va_P D cl (L1 ++ (W0 ++ L2)) H) (hD : va_D A (L1 ++ (W0 ++ L2))) (hk : ∀ q : Nat, q < H.size → ¬ va_A W0 H.size q → H1[q]? = H[q]?) (h1 : va_P D cl W1 H1) : va_P D cl (L1 ++ (W1 ++ L2)) H1 := by
  refine va_P_iff.mpr fun q hq => ?_
  have old : (q ∈ L1 ∨ q ∈ L2) → va_at D cl q H1 := fun hm => by
    obtain ⟨g1, g2⟩ := fr_out L1 L2 hP hD hm
    have hm' : q ∈ L1 ++ (W0 ++ L2) := hm.elim (fun h => List.mem_append_left _ h) (fun h => List.mem_append_right _ (List.mem_append_right _ h))
    exact (va_P_iff.mp hP q hm').kept (hk q.1 g1 g2)
  rcases List.mem_append.mp hq with h | h
  · exact old (Or.inl h)
  · rcases List.mem_append.mp h with h | h
    · exact va_P_iff.mp h1 q h
    · exact old (Or.inr h)
theorem fr_same {A : Nat → Prop} (L1 : va_W) {W0 W1 : va_W} (L2 : va_W) (hD : va_D A (L1 ++ (W0 ++ L2))) (e : W1.map (·.1) = W0.map (·.1)) : va_D A (L1 ++ (W1 ++ L2)) := hD.same (by simp only [List.map_append, e])
section WF_
variable {p : Program} {l : Launch} {e : Env} {R : Room} {s : State} {m : MethodId} {args : Array Value} {below : List Frame} {meth : Method} {c : Code} {H : Heap} {locs : List Loc} {cells slots mc ms : Nat} {Q : State → Prop}
variable {pc : Nat} {ls : Array Slot} {rest st0 : List Value} {a : Array Value} {G : GT} {A : Nat → Prop} {W0 : va_W} {S : Type} {Wd : S → va_W}
theorem wf_i (L1 L2 : va_W) {out : Int32 × S} (hr : va_Run p l e R s m args below meth c H locs cells slots mc ms (F0 m pc ls st0) rest (va_Qi (fun r u => (r, u) = out) (fun u t => va_P G.1 vwCl (Wd u) t.heap) (va_A W0 H.size) a) (va_A W0 H.size))
    (hP : va_P G.1 vwCl (L1 ++ (W0 ++ L2)) H) (hD : va_D A (L1 ++ (W0 ++ L2))) (hS : va_S A s.heap H locs) (hA : ∀ q, s.heap.size ≤ q → A q) (hf : ∀ u, (Wd u).map (·.1) = W0.map (·.1))
    (kk : ∀ (H : Heap) (locs : List Loc), va_P G.1 vwCl (L1 ++ (Wd out.2 ++ L2)) H → va_D A (L1 ++ (Wd out.2 ++ L2)) → va_S A s.heap H locs → W p l e R s m args below meth c H locs (cells + mc) (slots + ms) Q (F0 m (pc + 3) ls (.int out.1 :: rest))) : W p l e R s m args below meth c H locs cells slots Q (F0 m pc ls st0) := by
  have hF := va_A_in (fr_midD L1 L2 hD) hS hA
  refine va_calli hr hS (fun q _ h => hF q h) hF (fun r u t H1 locs1 ht hvm hw hB hz hk hS1 => ?_)
  subst hw
  rw [ht] at hB
  exact kk H1 locs1 (fr_back L1 L2 hP hD hk hB) (fr_same L1 L2 hD (hf u)) hS1
theorem wf_l (L1 L2 : va_W) {out : Int64 × S} (hr : va_Run p l e R s m args below meth c H locs cells slots mc ms (F0 m pc ls st0) rest (va_Ql (fun r u => (r, u) = out) (fun u t => va_P G.1 vwCl (Wd u) t.heap) (va_A W0 H.size) a) (va_A W0 H.size))
    (hP : va_P G.1 vwCl (L1 ++ (W0 ++ L2)) H) (hD : va_D A (L1 ++ (W0 ++ L2))) (hS : va_S A s.heap H locs) (hA : ∀ q, s.heap.size ≤ q → A q) (hf : ∀ u, (Wd u).map (·.1) = W0.map (·.1))
    (kk : ∀ (H : Heap) (locs : List Loc), va_P G.1 vwCl (L1 ++ (Wd out.2 ++ L2)) H → va_D A (L1 ++ (Wd out.2 ++ L2)) → va_S A s.heap H locs → W p l e R s m args below meth c H locs (cells + mc) (slots + ms) Q (F0 m (pc + 3) ls (.long out.1 :: rest))) : W p l e R s m args below meth c H locs cells slots Q (F0 m pc ls st0) := by
  have hF := va_A_in (fr_midD L1 L2 hD) hS hA
  refine va_calll hr hS (fun q _ h => hF q h) hF (fun r u t H1 locs1 ht hvm hw hB hz hk hS1 => ?_)
  subst hw
  rw [ht] at hB
  exact kk H1 locs1 (fr_back L1 L2 hP hD hk hB) (fr_same L1 L2 hD (hf u)) hS1
theorem wf_f (L1 L2 : va_W) {out : UInt32 × S} (hr : va_Run p l e R s m args below meth c H locs cells slots mc ms (F0 m pc ls st0) rest (va_Qf (fun r u => (r, u) = out) (fun u t => va_P G.1 vwCl (Wd u) t.heap) (va_A W0 H.size) a) (va_A W0 H.size))
    (hP : va_P G.1 vwCl (L1 ++ (W0 ++ L2)) H) (hD : va_D A (L1 ++ (W0 ++ L2))) (hS : va_S A s.heap H locs) (hA : ∀ q, s.heap.size ≤ q → A q) (hf : ∀ u, (Wd u).map (·.1) = W0.map (·.1))
    (kk : ∀ (H : Heap) (locs : List Loc), va_P G.1 vwCl (L1 ++ (Wd out.2 ++ L2)) H → va_D A (L1 ++ (Wd out.2 ++ L2)) → va_S A s.heap H locs → W p l e R s m args below meth c H locs (cells + mc) (slots + ms) Q (F0 m (pc + 3) ls (.float out.1 :: rest))) : W p l e R s m args below meth c H locs cells slots Q (F0 m pc ls st0) := by
  have hF := va_A_in (fr_midD L1 L2 hD) hS hA
  refine va_callf hr hS (fun q _ h => hF q h) hF (fun r u t H1 locs1 ht hvm hw hB hz hk hS1 => ?_)
  subst hw
  rw [ht] at hB
  exact kk H1 locs1 (fr_back L1 L2 hP hD hk hB) (fr_same L1 L2 hD (hf u)) hS1
theorem wf_d (L1 L2 : va_W) {out : UInt64 × S} (hr : va_Run p l e R s m args below meth c H locs cells slots mc ms (F0 m pc ls st0) rest (va_Qd (fun r u => (r, u) = out) (fun u t => va_P G.1 vwCl (Wd u) t.heap) (va_A W0 H.size) a) (va_A W0 H.size))
    (hP : va_P G.1 vwCl (L1 ++ (W0 ++ L2)) H) (hD : va_D A (L1 ++ (W0 ++ L2))) (hS : va_S A s.heap H locs) (hA : ∀ q, s.heap.size ≤ q → A q) (hf : ∀ u, (Wd u).map (·.1) = W0.map (·.1))
    (kk : ∀ (H : Heap) (locs : List Loc), va_P G.1 vwCl (L1 ++ (Wd out.2 ++ L2)) H → va_D A (L1 ++ (Wd out.2 ++ L2)) → va_S A s.heap H locs → W p l e R s m args below meth c H locs (cells + mc) (slots + ms) Q (F0 m (pc + 3) ls (.double out.1 :: rest))) : W p l e R s m args below meth c H locs cells slots Q (F0 m pc ls st0) := by
  have hF := va_A_in (fr_midD L1 L2 hD) hS hA
  refine va_calld hr hS (fun q _ h => hF q h) hF (fun r u t H1 locs1 ht hvm hw hB hz hk hS1 => ?_)
  subst hw
  rw [ht] at hB
  exact kk H1 locs1 (fr_back L1 L2 hP hD hk hB) (fr_same L1 L2 hD (hf u)) hS1
/-- a call that throws -/
theorem x_call (L1 L2 : va_W) {Wd : St → va_W} {e' : Nat × St} (hr : vx_Run p l e R s m args below meth c H locs cells slots 1 6 (F0 m pc ls st0) rest (fun _ _ _ => False) (XCf G Wd (va_A W0 H.size) e') (va_A W0 H.size))
    (hP : va_P G.1 vwCl (L1 ++ (W0 ++ L2)) H) (hD : va_D A (L1 ++ (W0 ++ L2))) (hS : va_S A s.heap H locs) (hA : ∀ q, s.heap.size ≤ q → A q) (hf : ∀ u, (Wd u).map (·.1) = W0.map (·.1))
    (kk : ∀ (ce : Cell) (q9 : Addr) (H : Heap) (locs : List Loc), va_P G.1 vwCl (L1 ++ (Wd e'.2 ++ L2)) H → va_D A (L1 ++ (Wd e'.2 ++ L2)) → va_S A s.heap H locs → H[q9]? = some ce → ce.vm = .none → s.vm.findClass (exN e'.1) = some ce.cls → vx_W p l e R s m args below meth c H locs (cells + 1) (slots + 6) Q (F0 m pc ls rest) q9) : W p l e R s m args below meth c H locs cells slots Q (F0 m pc ls st0) := by
  have hF := va_A_in (fr_midD L1 L2 hD) hS hA
  intro T hT X
  rcases hr T hT X with ⟨v, st₀, t, T', L, h0, X', hL, e1, e2, hF, st⟩ | ⟨q, st₀, t, T', L, E, ce, h0, X', hL, e1, e2, hx, hce, hcv, hcl, st⟩
  · exact hF.elim
  · obtain ⟨u, rfl, ⟨rfl, hPt⟩, hFr⟩ := hx
    obtain ⟨k1, k2, k3⟩ := vx_keep h0 e1 hS (fun q _ h => hF q h) hF hL hFr
    rw [← e1] at hPt hce
    obtain ⟨t2, a1, b1⟩ := kk ce q T'.heap (locs ++ L) (fr_back L1 L2 hP hD k2 hPt) (fr_same L1 L2 hD (hf _)) k3 hce hcv hcl T' rfl X'
    exact ⟨t2, st.trans a1, b1⟩
end WF_
/-! ===== the law's own row of one long ===== -/
def OW (G : GT) (qo : Nat) (o : Nat → Int64) : va_W := [(qo, .inl (G.2 3, 1, .inr (.inl o)))]
def XW (G : GT) (q : Nat → Nat) (qo : Nat) (u : St × (Nat → Int64)) : va_W := CW G q u.1 ++ OW G qo u.2
/-! ===== what the law's own methods answer: which exception (0 none), and the row of one long ===== -/
def lresW {β : Type} (x : Option ((Nat × St) ⊕ β)) (cd : Nat → Nat) (f : β → Int64 × St) (o : Nat → Int64) : Option (Int32 × (St × (Nat → Int64))) := match x with
  | none => none
  | some (.inl e) => if cd e.1 = 0 then none else some (nI (cd e.1), (e.2, o))
  | some (.inr r) => some (0, ((f r).2, vp_updL o 0 (f r).1))
def lresR {β : Type} (x : Option (Nat ⊕ β)) (C : St) (cd : Nat → Nat) (f : β → Int64) (o : Nat → Int64) : Option (Int32 × (St × (Nat → Int64))) := match x with
  | none => none
  | some (.inl e) => if cd e = 0 then none else some (nI (cd e), (C, o))
  | some (.inr r) => some (0, (C, vp_updL o 0 (f r)))
def cdL_addFeature (k : Nat) : Nat := if k = 1 then 1 else if k = 2 then 2 else if k = 3 then 3 else 0
def cdL_setMandatory (k : Nat) : Nat := if k = 1 then 1 else if k = 2 then 2 else if k = 4 then 3 else 0
def cdL_setGroup (k : Nat) : Nat := if k = 1 then 1 else if k = 2 then 2 else if k = 4 then 3 else 0
def cdL_require (k : Nat) : Nat := if k = 1 then 1 else if k = 2 then 2 else if k = 3 then 3 else if k = 4 then 4 else 0
def cdL_exclude (k : Nat) : Nat := if k = 1 then 1 else if k = 2 then 2 else if k = 3 then 3 else if k = 4 then 4 else 0
def cdL_any (k : Nat) : Nat := if k = 1 then 1 else if k = 2 then 2 else if k = 3 then 3 else if k = 4 then 4 else 0
def cdL_lift (k : Nat) : Nat := if k = 5 then 1 else if k = 3 then 2 else 0
def cdL_choose (k : Nat) : Nat := if k = 1 then 1 else if k = 2 then 2 else if k = 3 then 3 else if k = 4 then 4 else 0
def cdL_refuse (k : Nat) : Nat := if k = 1 then 1 else if k = 2 then 2 else if k = 3 then 3 else if k = 4 then 4 else 0
def cdL_retract (k : Nat) : Nat := if k = 1 then 1 else if k = 3 then 2 else 0
def cdL_stateOf (k : Nat) : Nat := if k = 1 then 1 else 0
def cdL_stateByAll (k : Nat) : Nat := if k = 1 then 1 else 0
def cdL_known (k : Nat) : Nat := if k = 1 then 1 else 0
def cdL_reasonOf (k : Nat) : Nat := if k = 1 then 1 else if k = 5 then 2 else 0
def cdL_reasonRule (k : Nat) : Nat := if k = 1 then 1 else if k = 5 then 2 else 0
def cdL_isConfiguration (k : Nat) : Nat := if k = 2 then 1 else 0
def cdL_addBundle (k : Nat) : Nat := if k = 1 then 1 else if k = 2 then 2 else if k = 3 then 3 else 0
def cdL_addPercent (k : Nat) : Nat := if k = 2 then 1 else if k = 3 then 2 else 0
def cdL_addSurcharge (k : Nat) : Nat := if k = 2 then 1 else if k = 3 then 2 else 0
def cdL_removeLayer (k : Nat) : Nat := if k = 3 then 1 else 0
def cdL_price (k : Nat) : Nat := if k = 2 then 1 else 0
def cdL_fewest (k : Nat) : Nat := if k = 1 then 1 else if k = 5 then 2 else 0
def cdL_toRetract (k : Nat) : Nat := if k = 1 then 1 else if k = 5 then 2 else 0
def cdL_force (k : Nat) : Nat := if k = 1 then 1 else if k = 2 then 2 else if k = 5 then 3 else 0
def cdL_lineAt (k : Nat) : Nat := if k = 1 then 1 else 0
def pL_addFeature (C : St) (o : Nat → Int64) (x1 : Int32) (x2 : Int32) : Option (Int32 × (St × (Nat → Int64))) := lresW (pX6_addFeature C x1 x2) cdL_addFeature (fun r => ((Int32.toInt64 r.1), r.2)) o
def pL_setMandatory (C : St) (o : Nat → Int64) (x1 : Int32) (x2 : Int32) : Option (Int32 × (St × (Nat → Int64))) := lresW (pX6_setMandatory C x1 x2) cdL_setMandatory (fun r => ((if r.1 = 0 then (0 : Int64) else 1), r.2)) o
def pL_setGroup (C : St) (o : Nat → Int64) (x1 : Int32) (x2 : Int32) (x3 : Int32) : Option (Int32 × (St × (Nat → Int64))) := lresW (pX6_setGroup C x1 x2 x3) cdL_setGroup (fun r => ((Int32.toInt64 r.1), r.2)) o
def pL_require (C : St) (o : Nat → Int64) (x1 : Int32) (x2 : Int32) : Option (Int32 × (St × (Nat → Int64))) := lresW (pX6_require C x1 x2) cdL_require (fun r => ((Int32.toInt64 r.1), r.2)) o
def pL_exclude (C : St) (o : Nat → Int64) (x1 : Int32) (x2 : Int32) : Option (Int32 × (St × (Nat → Int64))) := lresW (pX6_exclude C x1 x2) cdL_exclude (fun r => ((Int32.toInt64 r.1), r.2)) o
def pL_any (C : St) (o : Nat → Int64) (x1 : Int32) (x2 : Int32) (x3 : Int32) : Option (Int32 × (St × (Nat → Int64))) := lresW (pX6_any C x1 x2 x3) cdL_any (fun r => ((Int32.toInt64 r.1), r.2)) o
def pL_lift (C : St) (o : Nat → Int64) (x1 : Int32) : Option (Int32 × (St × (Nat → Int64))) := lresW (pX6_lift C x1) cdL_lift (fun r => ((Int32.toInt64 r.1), r.2)) o
def pL_choose (C : St) (o : Nat → Int64) (x1 : Int32) : Option (Int32 × (St × (Nat → Int64))) := lresW (pX6_choose C x1) cdL_choose (fun r => ((Int32.toInt64 r.1), r.2)) o
def pL_refuse (C : St) (o : Nat → Int64) (x1 : Int32) : Option (Int32 × (St × (Nat → Int64))) := lresW (pX6_refuse C x1) cdL_refuse (fun r => ((Int32.toInt64 r.1), r.2)) o
def pL_retract (C : St) (o : Nat → Int64) (x1 : Int32) : Option (Int32 × (St × (Nat → Int64))) := lresW (pX6_retract C x1) cdL_retract (fun r => ((Int32.toInt64 r.1), r.2)) o
def pL_stateOf (C : St) (o : Nat → Int64) (x1 : Int32) : Option (Int32 × (St × (Nat → Int64))) := lresR (pX6_stateOf C x1) C cdL_stateOf (fun r => (Int32.toInt64 r)) o
def pL_stateByAll (C : St) (o : Nat → Int64) (x1 : Int32) : Option (Int32 × (St × (Nat → Int64))) := lresR (pX6_stateByAll C x1) C cdL_stateByAll (fun r => (Int32.toInt64 r)) o
def pL_known (C : St) (o : Nat → Int64) (x1 : Int32) : Option (Int32 × (St × (Nat → Int64))) := lresW (pX6_known C x1) cdL_known (fun r => ((Int32.toInt64 r.1), r.2)) o
def pL_reasonOf (C : St) (o : Nat → Int64) (x1 : Int32) : Option (Int32 × (St × (Nat → Int64))) := lresW (pX6_reasonOf C x1) cdL_reasonOf (fun r => ((Int32.toInt64 r.1), r.2)) o
def pL_reasonRule (C : St) (o : Nat → Int64) (x1 : Int32) : Option (Int32 × (St × (Nat → Int64))) := lresW (pX6_reasonRule C x1) cdL_reasonRule (fun r => ((Int32.toInt64 r.1), r.2)) o
def pL_isConfiguration (C : St) (o : Nat → Int64) (x1 : Int32) : Option (Int32 × (St × (Nat → Int64))) := lresR (pX6_isConfiguration C x1) C cdL_isConfiguration (fun r => (if r = 0 then (0 : Int64) else 1)) o
def pL_addBundle (C : St) (o : Nat → Int64) (x1 : Int32) (x2 : Int32) (x3 : Int32) : Option (Int32 × (St × (Nat → Int64))) := lresW (pX6_addBundle C x1 x2 x3) cdL_addBundle (fun r => ((Int32.toInt64 r.1), r.2)) o
def pL_addPercent (C : St) (o : Nat → Int64) (x1 : Int32) : Option (Int32 × (St × (Nat → Int64))) := lresW (pX6_addPercent C x1) cdL_addPercent (fun r => ((Int32.toInt64 r.1), r.2)) o
def pL_addSurcharge (C : St) (o : Nat → Int64) (x1 : Int32) (x2 : Int32) : Option (Int32 × (St × (Nat → Int64))) := lresW (pX6_addSurcharge C x1 x2) cdL_addSurcharge (fun r => ((Int32.toInt64 r.1), r.2)) o
def pL_removeLayer (C : St) (o : Nat → Int64) : Option (Int32 × (St × (Nat → Int64))) := lresW (pX6_removeLayer C) cdL_removeLayer (fun r => ((Int32.toInt64 r.1), r.2)) o
def pL_price (C : St) (o : Nat → Int64) (x1 : Int32) : Option (Int32 × (St × (Nat → Int64))) := lresR (pX6_price C x1) C cdL_price (fun r => (Int32.toInt64 r)) o
def pL_fewest (C : St) (o : Nat → Int64) (x1 : Int32) (x2 : Int32) : Option (Int32 × (St × (Nat → Int64))) := lresR (pX6_fewest C x1 x2) C cdL_fewest (fun r => (Int32.toInt64 r)) o
def pL_toRetract (C : St) (o : Nat → Int64) (x1 : Int32) (x2 : Int32) : Option (Int32 × (St × (Nat → Int64))) := lresR (pX6_toRetract C x1 x2) C cdL_toRetract (fun r => (Int32.toInt64 r)) o
def pL_force (C : St) (o : Nat → Int64) (x1 : Int32) (x2 : Int32) : Option (Int32 × (St × (Nat → Int64))) := lresW (pX6_force C x1 x2) cdL_force (fun r => ((Int32.toInt64 r.1), r.2)) o
def pL_lineAt (C : St) (o : Nat → Int64) (x1 : Int32) : Option (Int32 × (St × (Nat → Int64))) := lresW (pX6_lineAt C x1) cdL_lineAt (fun r => ((Int32.toInt64 r.1), r.2)) o
