/-! ===== the letters of the reasons; a text's bytes ===== -/
def lat (K : Kn) : Prop := ∀ f, ∃ k, k < 128 ∧ K.2.1 f = nI k
theorem lat_K0 (i o : Nat) : lat (K0 i o) := fun f => by
  show ∃ k, k < 128 ∧ (if f = 0 then (111 : Int32) else if i.testBit f || o.testBit f then 100 else 45) = nI k
  split
  · exact ⟨111, by decide, rfl⟩
  · split
    · exact ⟨100, by decide, rfl⟩
    · exact ⟨45, by decide, rfl⟩
theorem lat_putK {K : Kn} (h : lat K) {f : Nat} {x : Int32} (hx : ∃ k, k < 128 ∧ x = nI k) (b : Bool) : lat (putK K f x b) := fun j => by
  show ∃ k, k < 128 ∧ upd K.2.1 f x j = nI k
  unfold upd
  split
  · exact hx
  · exact h j
theorem lat_step {D : Dt} {K K' : Kn} (h : lat K) {f : Nat} (e : stepF D K f = some K') : lat K' := by
  unfold stepF at e
  split at e
  · split at e
    · cases e
    · cases e
      exact lat_putK (K := byK K f _) h ⟨114, by decide, rfl⟩ _
  · next hz =>
    cases e
    refine lat_putK h ?_ _
    rcases treeL_cases D K.1.1 K.1.2 f with q | q | q | q | q | q | q | q
    · exact absurd q hz
    · exact ⟨99, by decide, q⟩
    · exact ⟨112, by decide, q⟩
    · exact ⟨109, by decide, q⟩
    · exact ⟨107, by decide, q⟩
    · exact ⟨102, by decide, q⟩
    · exact ⟨110, by decide, q⟩
    · exact ⟨103, by decide, q⟩
theorem lat_low {D : Dt} {K K' : Kn} (h : lat K) : ∀ n f, lowF D K n f = some K' → lat K'
  | 0, f, e => by cases e
  | n + 1, f, e => by
    unfold lowF at e
    split at e
    · exact lat_low h n (f + 1) e
    · split at e
      · exact lat_low h n (f + 1) e
      · next q => cases e; exact lat_step h q
theorem lat_run {D : Dt} : ∀ n {K : Kn}, lat K → lat (runK D n K)
  | 0, K, h => h
  | n + 1, K, h => by
    show lat (match low D K with | none => K | some K' => runK D n K')
    cases q : low D K with
    | none => exact h
    | some K' => exact lat_run n (by unfold low at q; exact lat_low h _ _ q)
theorem lat_fin {D : Dt} {i o : Nat} {K : Kn} (h : Fin D (K0 i o) K) : lat K := by
  obtain ⟨⟨n, rfl⟩, -⟩ := h
  exact lat_run n (lat_K0 i o)
def TX (t : List Int32) (a : Nat → Int32) : Prop := ∀ j x, t[j]? = some x → a j = x
theorem TX_app {t : List Int32} {a a' : Nat → Int32} {x : Int32} (h : TX t a) (h1 : ∀ i, i < t.length → a' i = a i) (h2 : a' t.length = x) : TX (t ++ [x]) a' := fun j y hj => by
  rcases Nat.lt_trichotomy j t.length with q | q | q
  · rw [List.getElem?_append_left q] at hj
    rw [h1 j q]; exact h j y hj
  · subst q
    rw [List.getElem?_append_right (Nat.le_refl _), Nat.sub_self] at hj
    injection hj with hj
    rw [h2, hj]
  · rw [List.getElem?_append_right (by omega)] at hj
    have : ([x] : List Int32)[j - t.length]? = none := List.getElem?_eq_none (by simp; omega)
    rw [this] at hj; cases hj
def decL (f : Nat) : List Int32 := (if f < 10 then [] else [49]) ++ [nI (48 + f % 10)]
theorem decL_len (f : Nat) : (decL f).length = dgs f := by
  unfold decL dgs
  split <;> rfl
theorem TX_dig {t : List Int32} {a a1 : Nat → Int32} (h : TX t a) (h1 : ∀ i, i < t.length → a1 i = a i) {f : Nat} (hf : f < 12) : TX (t ++ decL f) (gcs a1 (t.length + dgs f) f) := by
  unfold decL dgs gcs
  by_cases z : f < 10
  · rw [if_pos z, if_pos z, if_pos z, List.nil_append, show 48 + f % 10 = 48 + f by omega, Nat.add_sub_cancel]
    exact TX_app h (fun i hi => (pk_un (by omega)).trans (h1 i hi)) pk_us
  · rw [if_neg z, if_neg z, if_neg z, show 48 + f % 10 = 38 + f by omega, ← List.append_assoc, Nat.add_sub_cancel, show t.length + 2 - 1 = t.length + 1 by omega]
    have g1 : TX (t ++ [49]) (upd (upd a1 (t.length + 1) (nI (38 + f))) t.length (nI 49)) := TX_app h (fun i hi => by rw [pk_un (by omega), pk_un (by omega)]; exact h1 i hi) pk_us
    refine TX_app g1 (fun i hi => rfl) ?_
    rw [List.length_append, pk_un (by simp)]
    exact pk_us
theorem lnF_split (K : Kn) (f : Nat) : lnF K f = (if 0 < f then [32] else []) ++ (decL f ++ (if knK K f then [K.2.1 f, if K.1.1.testBit f then 43 else 45] else [63])) := by
  unfold lnF decL
  rw [List.append_assoc, List.singleton_append]
