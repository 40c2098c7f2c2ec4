/-! THE ABSTRACT MACHINE IS THE MACHINE: what a number stands for, and a row an instruction -/
abbrev gx_T : Type := (Nat → ClassId) × (Nat → Nat → Nat) × (Nat → ClassId) × (Nat → Option Nat) × Nat × Nat × (Nat → Int32)
abbrev gx_D (g : gx_T) : va_G := (g.1, g.2.1)
abbrev gx_d (g : gx_T) : Nat → ClassId := g.2.2.1
abbrev gx_s (g : gx_T) : Nat → Option Nat := g.2.2.2.1
abbrev gx_b (g : gx_T) : Nat := g.2.2.2.2.1
abbrev gx_n (g : gx_T) : Nat := g.2.2.2.2.2.1
abbrev gx_x (g : gx_T) : Nat → Int32 := g.2.2.2.2.2.2
def gx_v (g : gx_T) : Value → Value
  | .ref k => if k < 1000000 then .ref (gx_b g + k) else va_rf (gx_s g (k - 1000000))
  | v => v
def gx_z (g : gx_T) : ((Nat → Int32) ⊕ (Nat → Int64) ⊕ (Nat → UInt32) ⊕ (Nat → UInt64) ⊕ (Nat → Option Nat)) → ((Nat → Int32) ⊕ (Nat → Int64) ⊕ (Nat → UInt32) ⊕ (Nat → UInt64) ⊕ (Nat → Option Nat))
  | .inr (.inr (.inr (.inr f))) => .inr (.inr (.inr (.inr (fun i => (f i).map (fun k => gx_b g + k)))))
  | z => z
def gx_c (g : gx_T) : gc_C → va_E
  | .inl (ci, fs) => .inr (ci, fs.map (gx_v g))
  | .inr (t, n, z) => .inl (gx_d g t, n, gx_z g z)
def gx_w (g : gx_T) (M : gc_M) : va_W := (List.range M.1).map (fun k => (gx_b g + k, gx_c g (M.2.2 k)))
def gx_A (g : gx_T) : Nat → Prop := fun q => gx_b g ≤ q
theorem gx_v_cat (g : gx_T) (v : Value) : (gx_v g v).category = v.category := by
  cases v with
  | ref k =>
    show (if k < 1000000 then Value.ref (gx_b g + k) else va_rf (gx_s g (k - 1000000))).category = 1
    split
    · rfl
    · cases gx_s g (k - 1000000) <;> rfl
  | _ => rfl
theorem gx_cats (g : gx_T) (r : List Value) : ((r.map (gx_v g)).map fun v => v.category) = r.map Value.category := by
  rw [List.map_map]
  exact List.map_congr_left (fun v _ => gx_v_cat g v)
theorem gx_c1 {v : Value} (h : gc_c1 v = true) : v.category = 1 := by
  cases v <;> first | rfl | (simp [gc_c1] at h)
theorem gx_w_get (g : gx_T) {M : gc_M} {k : Nat} (h : k < M.1) : (gx_w g M)[k]? = some (gx_b g + k, gx_c g (M.2.2 k)) := by
  simp [gx_w, h]
theorem gx_w_set (g : gx_T) {M : gc_M} {k : Nat} (x : gc_C) : (gx_w g M).set k (gx_b g + k, gx_c g x) = gx_w g (gc_up M k x) := by
  apply List.ext_getElem?
  intro j
  rw [List.getElem?_set]
  by_cases hj : k = j
  · subst hj
    by_cases hk : k < M.1
    · rw [if_pos rfl, gx_w_get g (M := gc_up M k x) hk]
      simp [gx_w, hk, gc_up]
    · simp [gx_w, hk, gc_up]
  · rw [if_neg hj]
    by_cases hk : j < M.1
    · rw [gx_w_get g hk, gx_w_get g (M := gc_up M k x) hk]
      simp [gc_up, Ne.symm hj]
    · simp [gx_w, hk, gc_up]
theorem gx_w_push (g : gx_T) {M : gc_M} (n : Nat) (x : gc_C) : gx_w g M ++ [(gx_b g + M.1, gx_c g x)] = gx_w g (gc_push M n x) := by
  unfold gx_w gc_push
  rw [List.range_succ, List.map_append]
  congr 1
  · apply List.map_congr_left
    intro k hk
    have : k < M.1 := List.mem_range.mp hk
    simp [Nat.ne_of_lt this]
  · simp
theorem gx_wD (g : gx_T) (M : gc_M) : va_D (gx_A g) (gx_w g M) := by
  have key : ∀ (k : Nat) (q : Nat × va_E), (gx_w g M)[k]? = some q → q.1 = gx_b g + k := by
    intro k q hq
    have hk : k < M.1 := by
      have := (List.getElem?_eq_some_iff.mp hq).1
      simpa [gx_w] using this
    rw [gx_w_get g hk] at hq
    cases hq
    rfl
  refine ⟨fun i j p q hi hj hpq => ?_, fun k q hk => ?_⟩
  · have a := key i p hi
    have b := key j q hj
    omega
  · have a := key k q hk
    show gx_b g ≤ q.1
    omega
/-- the locals -/
def gx_Lr (g : gx_T) (L : gc_L) (ls : Array Slot) (nL : Nat) : Prop := L.length = nL ∧ ls.size = nL ∧ lv_wf ls ∧ ∀ (i : Nat) (v : Value), L[i]? = some (some v) → ls[i]? = some (.val (gx_v g v))
def gx_al (g : gx_T) (L : gc_L) : List (Nat × Value) := (List.range L.length).filterMap (fun i => match L[i]? with
  | some (some v) => some (i, gx_v g v)
  | _ => none)
theorem gx_al_in {g : gx_T} {L : gc_L} {i : Nat} {v : Value} (h : L[i]? = some (some v)) : (i, gx_v g v) ∈ gx_al g L := by
  refine List.mem_filterMap.mpr ⟨i, List.mem_range.mpr (List.getElem?_eq_some_iff.mp h).1, ?_⟩
  rw [h]
theorem gx_al_out {g : gx_T} {L : gc_L} {q : Nat × Value} (h : q ∈ gx_al g L) : ∃ v, L[q.1]? = some (some v) ∧ q.2 = gx_v g v := by
  obtain ⟨i, -, hi⟩ := List.mem_filterMap.mp h
  split at hi
  · rename_i v hv
    cases hi
    exact ⟨v, hv, rfl⟩
  · cases hi
theorem gx_Lr.has {g : gx_T} {L : gc_L} {ls : Array Slot} {nL : Nat} (h : gx_Lr g L ls nL) : lv_has ls nL (gx_al g L) := by
  refine ⟨h.2.1, h.2.2.1, fun q hq => ?_⟩
  obtain ⟨v, h1, h2⟩ := gx_al_out hq
  rw [h2]
  exact h.2.2.2 q.1 v h1
theorem gx_kill_len (L : gc_L) (i : Nat) : (gc_kill L i).length = L.length := by
  unfold gc_kill
  split
  · rfl
  · split
    · split <;> simp
    · rfl
theorem gx_set1_len (L : gc_L) (i : Nat) (v : Value) : (gc_set1 L i v).length = L.length := by
  unfold gc_set1
  rw [List.length_set]
  exact gx_kill_len L i
theorem gx_kill_at {L : gc_L} {i j : Nat} {w : Value} (h : (gc_kill L i)[j]? = some (some w)) : L[j]? = some (some w) ∧ (j + 1 = i → w.category = 1) := by
  unfold gc_kill at h
  split at h
  · exact ⟨h, fun q => by omega⟩
  · rename_i j0
    split at h
    · rename_i v hv
      split at h
      · rename_i hc
        refine ⟨h, fun q => ?_⟩
        have : j = j0 := by omega
        subst this
        rw [hv] at h
        cases h
        exact gx_c1 hc
      · rw [List.getElem?_set] at h
        split at h
        · split at h <;> cases h
        · rename_i hne
          exact ⟨h, fun q => absurd (by omega) hne⟩
    · rename_i hno
      refine ⟨h, fun q => ?_⟩
      have : j = j0 := by omega
      subst this
      exact absurd h (hno w)
theorem gx_Lr.set1 {g : gx_T} {L : gc_L} {ls ls' : Array Slot} {nL i : Nat} {v : Value} (h : gx_Lr g L ls nL) (h' : lv_has ls' nL ((i, gx_v g v) :: (gx_al g L).filter (fun q => !(q.1 == i) && !(q.1 + 1 == i && q.2.category == 2)))) : gx_Lr g (gc_set1 L i v) ls' nL := by
  refine ⟨(gx_set1_len L i v).trans h.1, h'.1, h'.2.1, fun j w hj => ?_⟩
  unfold gc_set1 at hj
  rw [List.getElem?_set] at hj
  split at hj
  · rename_i hij
    split at hj
    · cases hj
      subst hij
      exact h'.2.2 (i, gx_v g v) List.mem_cons_self
    · cases hj
  · rename_i hne
    obtain ⟨h1, h2⟩ := gx_kill_at hj
    refine h'.2.2 (j, gx_v g w) (List.mem_cons_of_mem _ (List.mem_filter.mpr ⟨gx_al_in h1, ?_⟩))
    have hc := gx_v_cat g w
    by_cases hji : j + 1 = i
    · have := h2 hji
      simp [Ne.symm hne, hc, this]
    · simp [Ne.symm hne, hji]
theorem gx_arg_sl (g : gx_T) : ∀ (as : List Value), (gc_arg as).length = (lg_sl (as.map (gx_v g))).length ∧ ∀ (i : Nat) (v : Value), (gc_arg as)[i]? = some (some v) → (lg_sl (as.map (gx_v g)))[i]? = some (.val (gx_v g v))
  | [] => ⟨rfl, fun i v h => by simp [gc_arg] at h⟩
  | a :: r => by
    obtain ⟨e1, e2⟩ := gx_arg_sl g r
    by_cases hc : a.category = 2
    · have hs : lg_sl ((a :: r).map (gx_v g)) = .val (gx_v g a) :: .second :: lg_sl (r.map (gx_v g)) := by
        simp [lg_sl, gx_v_cat, hc]
      have ha : gc_arg (a :: r) = some a :: none :: gc_arg r := by
        cases a <;> first | rfl | (simp [Value.category] at hc)
      rw [hs, ha]
      refine ⟨by simp [e1], fun i v h => ?_⟩
      match i, h with
      | 0, h => cases h; rfl
      | 1, h => simp at h
      | i + 2, h => exact e2 i v h
    · have hs : lg_sl ((a :: r).map (gx_v g)) = .val (gx_v g a) :: lg_sl (r.map (gx_v g)) := by
        simp [lg_sl, gx_v_cat, hc]
      have ha : gc_arg (a :: r) = some a :: gc_arg r := by
        cases a <;> first | rfl | (simp [Value.category] at hc)
      rw [hs, ha]
      refine ⟨by simp [e1], fun i v h => ?_⟩
      match i, h with
      | 0, h => cases h; rfl
      | i + 1, h => exact e2 i v h
theorem gx_entry (g : gx_T) {as : List Value} {n : Nat} (h : (gc_arg as).length ≤ n) : gx_Lr g (gc_ini as n) ((lg_sl (as.map (gx_v g)) ++ List.replicate (n - (lg_sl (as.map (gx_v g))).length) Slot.unset).toArray) n := by
  obtain ⟨e1, e2⟩ := gx_arg_sl g as
  have hh := lv_entry (as.map (gx_v g)) (n := n) (by rw [← e1]; exact h)
  refine ⟨by simp [gc_ini]; omega, hh.1, hh.2.1, fun i v hi => ?_⟩
  unfold gc_ini at hi
  rw [List.getElem?_append] at hi
  split at hi
  · rename_i hl
    have := e2 i v hi
    rw [List.getElem?_toArray, List.getElem?_append_left (by rw [← e1]; exact hl)]
    exact this
  · rw [List.getElem?_replicate] at hi
    split at hi <;> cases hi
