/-! the sum of a firm's steps is the sum of its clauses -/
def gS_st (fx : Nat → Int32) (k : fT) (p : Int32 × Int32) : Int32 × Int32 :=
  if k.1 = 3 then (p.1, p.2 ^^^ 1)
  else if k.1 = 4 then (p.1, p.2 >>> (1 &&& 31) &&& (p.2 &&& 1 ||| -2))
  else if k.1 = 5 then (p.1, p.2 >>> (1 &&& 31) ||| p.2 &&& 1)
  else if k.1 = 6 then (p.1 + (p.2 &&& 1) * nI k.2.2, 0)
  else if k.1 = 7 then (p.1 - (p.2 &&& 1) * nI k.2.2, 0)
  else (p.1, p.2 <<< (1 &&& 31) ||| gb_i (fT_so fx k))
def gS (fx : Nat → Int32) : List fT → Int32 × Int32 → Int32 × Int32
  | [], p => p
  | k :: ts, p => gS fx ts (gS_st fx k p)
theorem gS_app {fx : Nat → Int32} : ∀ {a b : List fT} {p : Int32 × Int32}, gS fx (a ++ b) p = gS fx b (gS fx a p)
  | [], _, _ => rfl
  | k :: a, b, p => by
    show gS fx (a ++ b) (gS_st fx k p) = _
    rw [gS_app]
    rfl
theorem fA_cases {k : fT} {st : List Bool} (h : fA k st) (hl : st.length ≤ 12) {fx : Nat → Int32} {v : Int32} : gS_st fx k (v, fE st) = (v, fE (fT_st fx k st)) ∧ (fT_st fx k st).length ≤ 12 := by
  obtain ⟨h0, h1, h2, h3⟩ := h
  unfold gS_st fT_st
  by_cases e3 : k.1 = 3
  · rw [if_pos e3, if_pos e3]
    have := h1 e3
    match st, this with
    | a :: r, _ => exact ⟨by rw [fE_not], hl⟩
  rw [if_neg e3, if_neg e3]
  by_cases e4 : k.1 = 4
  · rw [if_pos e4, if_pos e4]
    have := h2 (Or.inl e4)
    match st, this with
    | [a], h => exact absurd h (by simp)
    | a :: b :: r, _ =>
      simp only [List.length_cons] at hl
      exact ⟨by rw [fE_and (by omega)], by simp only [List.length_cons]; omega⟩
  rw [if_neg e4, if_neg e4]
  by_cases e5 : k.1 = 5
  · rw [if_pos e5, if_pos e5]
    have := h2 (Or.inr e5)
    match st, this with
    | [a], h => exact absurd h (by simp)
    | a :: b :: r, _ =>
      simp only [List.length_cons] at hl
      exact ⟨by rw [fE_or (by omega)], by simp only [List.length_cons]; omega⟩
  have := (h3 (by omega)).1
  rw [if_neg e5, if_neg e5, if_neg (by omega), if_neg (by omega)]
  exact ⟨rfl, by simp only [List.length_cons]; omega⟩
theorem gS_ok {fx : Nat → Int32} : ∀ {ts : List fT} {st : List Bool} {v : Int32}, fOK fx ts st → st.length ≤ 12 → gS fx ts (v, fE st) = (v, fE (fT_run fx ts st))
  | [], _, _, _, _ => rfl
  | k :: ts, st, v, h, hl => by
    obtain ⟨e, h12⟩ := fA_cases (fx := fx) (v := v) h.1 hl
    show gS fx ts (gS_st fx k (v, fE st)) = _
    rw [e]
    exact gS_ok h.2 h12
theorem gS_clause {fx : Nat → Int32} {c : fC} {v : Int32} (h : fC_ok c) : gS fx (fC_steps c) (v, 0) = (fC_add fx c v, 0) := by
  obtain ⟨h3, -, hw⟩ := h
  unfold fC_steps fC_add
  by_cases h1 : 1 < c.1
  · rw [if_pos h1, if_pos h1]
    rfl
  rw [if_neg h1, if_neg h1, gS_app]
  obtain ⟨h5, h6⟩ := fV_eq (fx := fx) (hw (by omega)) (by omega)
  have h7 := gS_ok (v := v) h5 (by simp)
  rw [h6] at h7
  rw [show ((v, 0) : Int32 × Int32) = (v, fE []) from rfl, h7]
  show gS_st fx (6 + c.1, 0, c.2.1) (v, fE [fV fx c.2.2]) = _
  unfold gS_st
  by_cases h0 : c.1 = 0
  · simp only [h0, Nat.add_zero]
    rw [if_neg (by decide), if_neg (by decide), if_neg (by decide), if_pos trivial, fE_top, if_pos trivial]
    cases fV fx c.2.2
    · simp [gb_i]
    · simp [gb_i]
  · have h0' : c.1 = 1 := by omega
    simp only [h0']
    rw [if_neg (by decide), if_neg (by decide), if_neg (by decide), if_neg (by decide), if_pos (by decide), fE_top]
    cases fV fx c.2.2
    · simp [gb_i]
    · simp [gb_i]
theorem gS_flat {fx : Nat → Int32} : ∀ {cs : List fC} {v : Int32}, (∀ c, c ∈ cs → fC_ok c) → gS fx (fC_flat cs) (v, 0) = (fC_sum fx cs v, 0)
  | [], _, _ => rfl
  | c :: cs, v, h => by
    show gS fx (fC_steps c ++ fC_flat cs) (v, 0) = _
    rw [gS_app, gS_clause (h c (List.mem_cons_self ..)), gS_flat (fun c' hc => h c' (List.mem_cons_of_mem _ hc))]
    rfl
/-- firm f of the memory holds these steps -/
def gF_tk (s : gm_S) (f : Nat) (ts : List fT) : Prop := s.1 f 5 = nI ts.length ∧ ts.length ≤ 100 ∧ ∀ i k, ts[i]? = some k → s.1 (f + 1) i = nI k.1 ∧ s.1 (f + 2) i = nI k.2.1 ∧ s.1 (f + 3) i = nI k.2.2
theorem gF_st_eq {s : gm_S} {f i : Nat} {fx : Nat → Int32} {k : fT} {p : Int32 × Int32} (h1 : s.1 (f + 1) i = nI k.1) (h2 : s.1 (f + 2) i = nI k.2.1) (h3 : s.1 (f + 3) i = nI k.2.2) (h6 : k.1 ≤ 7) (h7 : k.2.1 < 6) : gF_st s f fx i p = gS_st fx k p := by
  have e : ∀ n, n < 8 → (nI k.1 = nI n) = (k.1 = n) := fun n hn => propext (nI_eq (by omega) (by omega))
  have e0 := e 0 (by omega)
  have e1 := e 1 (by omega)
  have e3 := e 3 (by omega)
  have e4 := e 4 (by omega)
  have e5 := e 5 (by omega)
  have e6 := e 6 (by omega)
  have e7 := e 7 (by omega)
  have c := nI_clamp (n := k.2.1) (by omega)
  unfold gF_st gS_st gF_so fT_so
  rw [h1, h2, h3, c]
  simp only [show (nI k.1 = 0) = (k.1 = 0) from e0, show (nI k.1 = 1) = (k.1 = 1) from e1, show (nI k.1 = 3) = (k.1 = 3) from e3, show (nI k.1 = 4) = (k.1 = 4) from e4, show (nI k.1 = 5) = (k.1 = 5) from e5, show (nI k.1 = 6) = (k.1 = 6) from e6, show (nI k.1 = 7) = (k.1 = 7) from e7]
theorem gF_sts_eq {s : gm_S} {f : Nat} {fx : Nat → Int32} {ts : List fT} (h : gF_tk s f ts) (hk : ∀ k, k ∈ ts → k.1 ≤ 7 ∧ k.2.1 < 6) : ∀ (n i : Nat) (p : Int32 × Int32), i + n = ts.length → gF_sts s f fx n i p = gS fx (ts.drop i) p
  | 0, i, p, e => by
    rw [List.drop_of_length_le (by omega)]
    rfl
  | n + 1, i, p, e => by
    have hi : i < ts.length := by omega
    have hg : ts[i]? = some ts[i] := List.getElem?_eq_getElem hi
    obtain ⟨h1, h2, h3⟩ := h.2.2 i _ hg
    obtain ⟨k1, k2⟩ := hk _ (List.getElem_mem hi)
    rw [List.drop_eq_getElem_cons hi, gF_sts, gF_st_eq h1 h2 h3 k1 k2, gF_sts_eq h hk n (i + 1) _ (by omega)]
    rfl
/-- a text's clauses, read -/
def fCs (cs : List fC) : Prop := (∀ c, c ∈ cs → fC_ok c) ∧ (∀ k, k ∈ fC_flat cs → k.1 ≤ 7 ∧ k.2.1 < 6) ∧ cs.length ≤ 10 ∧ (fC_flat cs).length ≤ 100
/-- firm f of the memory is the firm of these clauses -/
def gF_tx (s : gm_S) (f : Nat) (cs : List fC) : Prop := gF_tk s f (fC_flat cs) ∧ s.1 f 0 = fC_last 2 cs 12 ∧ s.1 f 1 = fC_last 3 cs 2
theorem gF_tx_ok {s : gm_S} {f : Nat} {cs : List fC} (h : gF_tx s f cs) (hc : fCs cs) : gF_ok s f (fC_flat cs).length := by
  refine ⟨h.1.1, h.1.2.1, fun i hi => ?_⟩
  have hg : (fC_flat cs)[i]? = some (fC_flat cs)[i] := List.getElem?_eq_getElem hi
  obtain ⟨-, h2, -⟩ := h.1.2.2 i _ hg
  rw [h2]
  exact vp_in_nI (hc.2.1 _ (List.getElem_mem hi)).2 (by omega)
theorem gF_tx_sum {s : gm_S} {f : Nat} {cs : List fC} {fx : Nat → Int32} (h : gF_tx s f cs) (hc : fCs cs) : gF_sum s f (fC_flat cs).length fx = fC_sum fx cs 30 := by
  unfold gF_sum
  rw [gF_sts_eq h.1 hc.2.1 _ 0 _ (Nat.zero_add _), List.drop_zero, gS_flat hc.1]
