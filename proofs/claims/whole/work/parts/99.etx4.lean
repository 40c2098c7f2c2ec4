/-! FIRM: what is kept when a text is read -/
def nD (k b j : Nat) : Prop := (28 + 4 * k ≤ b ∧ b ≤ 31 + 4 * k) ∨ (b = 0 ∧ (j = 11 ∨ j = 13)) ∨ (b = 137 ∧ ((13 ≤ j ∧ j ≤ 17) ∨ (26 ≤ j ∧ j ≤ 28))) ∨ (b = 149 ∧ j = k) ∨ (150 ≤ b ∧ b ≤ 153 ∧ 10 * k ≤ j) ∨ (b = 154 ∧ 100 * k ≤ j) ∨ b = 155
def nN (k : Nat) (s s' : gm_S) : Prop := s'.2.2 = s.2.2 ∧ (∀ b j, b ≠ 28 + 4 * k → ¬ (b = 83 ∧ j = 1) → s'.2.1 b j = s.2.1 b j) ∧ ∀ b j, ¬ nD k b j → s'.1 b j = s.1 b j
section
variable {s s' : gm_S} {k k' : Nat} {φ : List (List fC)} {cs : List fC}
theorem mTx_N (hk : k' < k) (hk6 : k < 6) (hl : cs.length ≤ 10) (h : mTx s k' cs) (hz : ∀ i c, cs[i]? = some c → c.1 ≤ 1 → ∃ a, s.1 152 (10 * k' + i) = nI a ∧ a + c.2.2.length ≤ 100 * (k' + 1)) (e : nN k s s') : mTx s' k' cs := by
  obtain ⟨h1, h2⟩ := h
  refine ⟨(e.2.2 _ _ (by unfold nD; omega)).trans h1, fun i c hc => ?_⟩
  have hi := (List.getElem?_eq_some_iff.mp hc).1
  obtain ⟨x1, x2, x3⟩ := h2 i c hc
  refine ⟨(e.2.2 _ _ (by unfold nD; omega)).trans x1, (e.2.2 _ _ (by unfold nD; omega)).trans x2, fun hc1 => ?_⟩
  obtain ⟨a, y1, y2, y3, y4⟩ := x3 hc1
  obtain ⟨a2, z1, z2⟩ := hz i c hc hc1
  have ea : a2 = a := by
    rw [z1] at y1
    exact (nI_eq (by omega) (by omega)).mp y1
  subst ea
  refine ⟨a2, (e.2.2 _ _ (by unfold nD; omega)).trans y1, (e.2.2 _ _ (by unfold nD; omega)).trans y2, y3, fun q t ht => ?_⟩
  have hq := (List.getElem?_eq_some_iff.mp ht).1
  exact (e.2.2 _ _ (by unfold nD; omega)).trans (y4 q t ht)
theorem gF_tx_N (hk : k' < k) (hk6 : k < 6) (h : gF_tx s (28 + 4 * k') cs) (e : nN k s s') : gF_tx s' (28 + 4 * k') cs := gF_tx_cg h (fun b j q1 q2 => e.2.2 _ _ (by unfold nD; omega))
theorem kFi_N1 (h : kFi s φ) (hk6 : φ.length < 6) (e : nN φ.length s s') {cs : List fC} (hc : φ[k']? = some cs) : fCs cs ∧ gF_tx s' (28 + 4 * k') cs ∧ mTx s' k' cs := by
  obtain ⟨h1, h2, h3, ⟨h4, h4', h4''⟩, h5⟩ := h
  have hk' := (List.getElem?_eq_some_iff.mp hc).1
  obtain ⟨x1, x2, x3⟩ := h5 k' cs hc
  exact ⟨x1, gF_tx_N hk' hk6 x2 e, mTx_N hk' hk6 x1.2.2.1 x3 (h4'' k' cs hc) e⟩
theorem kFi_N2 (h : kFi s φ) (hk6 : φ.length < 6) (e : nN φ.length s s') : gF_tx s' 79 [] ∧ kLe s' ∧ kSz s' φ := by
  obtain ⟨h1, h2, h3, ⟨h4, h4', h4''⟩, h5⟩ := h
  refine ⟨gF_tx_cg h4 (fun b j q1 q2 => e.2.2 _ _ (by unfold nD; omega)), fun i hi => (e.2.2 _ _ (by unfold nD; omega)).trans (h4' i hi), fun k' cs hc i c hi hc1 => ?_⟩
  have hk' := (List.getElem?_eq_some_iff.mp hc).1
  have hi' := (List.getElem?_eq_some_iff.mp hi).1
  have hl := (h5 k' cs hc).1.2.2.1
  obtain ⟨a, z1, z2⟩ := h4'' k' cs hc i c hi hc1
  exact ⟨a, (e.2.2 _ _ (by unfold nD; omega)).trans z1, z2⟩
theorem kCu_N {cu : Option Nat} {f : Nat} (h : kCu φ cu cs f) (hk6 : φ.length < 6) : f = 79 ∨ (28 ≤ f ∧ f + 4 ≤ 28 + 4 * φ.length) := by
  cases cu with
  | none => exact Or.inl h.2
  | some k' =>
    have hk' := (List.getElem?_eq_some_iff.mp h.1).1
    have := h.2
    omega
theorem mFm_N {cu : Option Nat} {f : Nat} (hF : kFi s φ) (hk6 : φ.length < 6) (hc : kCu φ cu cs f) (h : mFm s cu cs) (e : nN φ.length s s') (e14 : s'.1 137 14 = s.1 137 14) : mFm s' cu cs := by
  cases cu with
  | none => exact ⟨e14.trans h.1, h.2⟩
  | some k' =>
    obtain ⟨h1, h2, h3, h4⟩ := h
    exact ⟨e14.trans h1, h2, h3, (kFi_N1 hF hk6 e hc.1).2.2⟩
theorem kIm_N (hF : kFi s φ) (hk6 : φ.length < 6) (h : kIm s φ) (e : nN φ.length s s') : kIm s' φ := by
  rcases h with ⟨h1, h2⟩ | ⟨h1, h2, p, cu, cs, f, l1, l2, l3, h3, h4, h5, h7, h8⟩
  · exact Or.inl ⟨(e.2.2 0 9 (by unfold nD; omega)).trans h1, (e.2.2 137 48 (by unfold nD; omega)).trans h2⟩
  · have hf := kCu_N h3 hk6
    exact Or.inr ⟨(e.2.2 0 9 (by unfold nD; omega)).trans h1, (e.2.2 137 48 (by unfold nD; omega)).trans h2, p, cu, cs, f, l1, l2, l3, h3, h4, gR_cg h5 h4.1.1 (e.2.1 _ _ (by omega) (by omega)) (fun b j q => e.2.2 b j (by unfold nD; omega)), mIR_cg h7 (fun b j q => e.2.2 b j (by unfold nD; omega)), kIL_cg h8 (fun b j q => e.2.2 b j (by unfold nD; omega))⟩
theorem kIm_more {x : List fC} (h : kIm s φ) : kIm s (φ ++ [x]) := by
  rcases h with h | ⟨h1, h2, p, cu, cs, f, l1, l2, l3, h3, h4⟩
  · exact Or.inl h
  · refine Or.inr ⟨h1, h2, p, cu, cs, f, l1, l2, l3, ?_, h4⟩
    cases cu with
    | none => exact h3
    | some k' =>
      have hk' := (List.getElem?_eq_some_iff.mp h3.1).1
      exact ⟨by rw [List.getElem?_append_left hk']; exact h3.1, h3.2⟩
variable {p : gA} {cu : Option Nat} {f : Nat} {l1 : List gTr} {l2 l3 : List (Nat × Nat)}
theorem kTx_0 {b : Nat → Nat} (h1 : s.1 0 11 = 0) (h2 : s.1 137 15 = 0) : kTx s 0 b := ⟨h1, h2, by omega, fun i hi => by omega⟩
theorem g_fault (h : gI s φ p cu cs f l1 l2 l3) (hk6 : φ.length < 6) (e : nN φ.length s s') (e83 : s'.2.1 83 1 = s.2.1 83 1) (a1 : s'.1 0 11 = 0) (a2 : s'.1 137 15 = 0) (a3 : s'.1 0 13 = s.1 0 13) (a4 : s'.1 137 13 = s.1 137 13) (a5 : s'.1 137 14 = s.1 137 14) : gInv s' := by
  obtain ⟨h1, h2, h3, h4, -, ⟨o, tr, h6⟩, h7⟩ := h
  have hf := kCu_N h2.1 hk6
  have hFi : kFi s' φ := ⟨a3.trans h1.1, a4.trans h1.2.1, h1.2.2.1, kFi_N2 h1 hk6 e, fun k' cs' hc => kFi_N1 h1 hk6 e hc⟩
  have hY : mY 9999 s' cu cs p := by
    obtain ⟨y1, y2, y3, y4, y5⟩ := h2.2.2.2
    exact ⟨mR_cg y1 h2.2.1.1 (fun j hj => e.2.2 _ _ (by unfold nD; omega)) (fun b j hb => e.2.2 _ _ (by unfold nD; omega)) (fun b j q1 q2 _ => e.2.2 _ _ (by unfold nD; omega)), mFm_N h1 hk6 h2.1 y2 e a5, (e.2.2 137 31 (by unfold nD; omega)).trans y3, fun c hc => by rw [e.2.2 141 c (by unfold nD; omega)]; exact y4 c hc, y5⟩
  exact ⟨⟨φ, p, cu, cs, f, l1, l2, l3, hFi, ⟨h2.1, h2.2.1, gR_cg h2.2.2.1 h2.2.1.1.1 e83 (fun b j q => e.2.2 b j (by unfold nD; omega)), hY⟩, kLs_cg h3 (fun b j q => e.2.2 b j (by unfold nD; omega)), kIm_N h1 hk6 h4 e⟩, ⟨0, fun _ => 0, kTx_0 a1 a2⟩, ⟨o, tr, kAc_cg h6 (e.2.1 _ _ (by omega) (by omega)) (fun b j q => e.2.2 b j (by unfold nD; omega))⟩, kTp_cg h7 (fun b j q => by rw [e.1]) (fun b j q => e.2.2 b j (by unfold nD; omega))⟩
/-- the yard with another firm -/
def gA_fm (p : gA) (cs : List fC) : gA := (p.1, (fun o j => if o = 17 then (if j = 0 then fC_last 2 cs 12 else fC_last 3 cs 2) else p.2.1 o j), fun fx => fC_sum fx cs 30)
theorem gA_fm_o {o j : Nat} (ho : o ≠ 17) : (gA_fm p cs).2.1 o j = p.2.1 o j := if_neg ho
theorem gA_fm_0 : (gA_fm p cs).2.1 17 0 = fC_last 2 cs 12 := rfl
theorem gA_fm_1 : (gA_fm p cs).2.1 17 1 = fC_last 3 cs 2 := rfl
theorem fC_last_le {x : Nat} : ∀ {cs : List fC} {v : Int32}, (∀ c, c ∈ cs → fC_ok c) → v ≤ 99 → fC_last x cs v ≤ 99
  | [], v, _, hv => hv
  | c :: r, v, h, hv => by
    show fC_last x r (if c.1 = x then nI c.2.1 else v) ≤ 99
    refine fC_last_le (cs := r) (fun c' hc => h c' (List.mem_cons_of_mem _ hc)) ?_
    split
    · have := (h c (List.mem_cons_self ..)).2.1
      exact nI_le (b := 99) (by omega) (by decide)
    · exact hv
theorem gA_fm_all {cs' : List fC} (h : gA_all p cs) (hc : fCs cs') : gA_all (gA_fm p cs') cs' := by
  obtain ⟨h1, h2, h3, h4, h5, h6, h7, h8, h9⟩ := h
  refine ⟨⟨h1.1, h1.2.1, h1.2.2.1, fun c hc => ?_⟩, ⟨?_, fun t ht q => ?_, fun c hc => ?_⟩, fun t ht => ?_, fun t ht => ?_, hc, h6, fun fx => rfl, gA_fm_0, gA_fm_1⟩
  · rw [gA_fm_o (by decide)]; exact h1.2.2.2 c hc
  · rw [gA_fm_1]
    exact fC_last_le hc.1 (by decide)
  · rw [gA_fm_o (by decide)] at q
    rw [gA_fm_o (by decide)]
    exact h2.2.1 t ht q
  · rw [gA_fm_o (by decide)]; exact h2.2.2 c hc
  · rw [gA_fm_o (by decide)]; exact h3 t ht
  · rw [gA_fm_o (by decide)]; exact h4 t ht
theorem mR_fm {cs' : List fC} (h : mR s p) (h6 : p.1.2.1 ≤ 6) : mR s (gA_fm p cs') := by
  obtain ⟨r1, r2, r3, r4, r5, r6⟩ := h
  refine ⟨r1, r2, r3, fun k hk => ?_, fun c hc => ?_, fun t ht => ?_⟩
  · rw [gA_fm_o (by decide)]; exact r4 k hk
  · have hc' : c < p.1.2.1 := hc
    rw [gA_fm_o (by decide), gA_fm_o (by decide)]
    refine ⟨(r5 c hc).1, (r5 c hc).2.1, fun k hk => ?_⟩
    rw [gA_fm_o (by omega)]
    exact (r5 c hc).2.2 k hk
  · rw [gA_fm_o (by decide), gA_fm_o (by decide), gA_fm_o (by decide), gA_fm_o (by decide), gA_fm_o (by decide)]
    exact r6 t ht
theorem g_good {cs' : List fC} (h : gI s φ p cu cs f l1 l2 l3) (hk6 : φ.length < 6) (e : nN φ.length s s') (e83 : s'.2.1 83 1 = some (28 + 4 * φ.length)) (a1 : s'.1 0 11 = 0) (a2 : s'.1 137 15 = 0) (a3 : s'.1 0 13 = nI (φ.length + 1)) (a4 : s'.1 137 13 = nI (φ.length + 1)) (a5 : s'.1 137 14 = nI φ.length) (b1 : fCs cs') (b2 : gF_tx s' (28 + 4 * φ.length) cs') (b3 : mTx s' φ.length cs') (b4 : ∀ i c, cs'[i]? = some c → c.1 ≤ 1 → ∃ a, s'.1 152 (10 * φ.length + i) = nI a ∧ a + c.2.2.length ≤ 100 * (φ.length + 1)) : gInv s' := by
  obtain ⟨h1, h2, h3, h4, -, ⟨o, tr, h6⟩, h7⟩ := h
  obtain ⟨x1, x2, x3⟩ := kFi_N2 h1 hk6 e
  have hget : ∀ k' q, (φ ++ [cs'])[k']? = some q → (k' < φ.length ∧ φ[k']? = some q) ∨ (k' = φ.length ∧ q = cs') := fun k' q hq => get_app hq
  have hFi : kFi s' (φ ++ [cs']) := by
    refine ⟨?_, ?_, ?_, ⟨x1, x2, fun k' q hq => ?_⟩, fun k' q hq => ?_⟩
    · rw [List.length_append]; exact a3
    · rw [List.length_append]; exact a4
    · rw [List.length_append, List.length_singleton]; omega
    · rcases hget k' q hq with ⟨y1, y2⟩ | ⟨y1, y2⟩
      · exact x3 k' q y2
      · subst y1
        subst y2
        exact b4
    · rcases hget k' q hq with ⟨y1, y2⟩ | ⟨y1, y2⟩
      · exact kFi_N1 h1 hk6 e y2
      · subst y1
        subst y2
        exact ⟨b1, b2, b3⟩
  have hFis : gF_is (28 + 4 * φ.length) := by unfold gF_is; omega
  obtain ⟨r1, r2, r3, r4, r5, r6, r7, r8, r9, r10, r11⟩ := h2.2.2.1
  have hR : gR s' 83 (28 + 4 * φ.length) (fC_flat cs').length (gA_fm p cs') := by
    refine ⟨r1, hFis, e83, gF_tx_ok b2 b1, (e.2.2 _ _ (by unfold nD; omega)).trans r5, (e.2.2 _ _ (by unfold nD; omega)).trans r6, (e.2.2 _ _ (by unfold nD; omega)).trans r7, fun o j ho => ?_, b2.2.1, b2.2.2, fun fx => gF_tx_sum b2 b1⟩
    have ho' : gA_in p o j := ho
    have h66 := h2.2.1.1.1
    have hne : o ≤ 16 := by unfold gA_in at ho'; omega
    rw [gA_fm_o (by omega), e.2.2 _ _ (by unfold nD; omega)]
    exact r8 o j ho'
  have hY : mY 9999 s' (some φ.length) cs' (gA_fm p cs') := by
    obtain ⟨y1, y2, y3, y4, y5⟩ := h2.2.2.2
    refine ⟨mR_fm (mR_cg y1 h2.2.1.1 (fun j hj => e.2.2 _ _ (by unfold nD; omega)) (fun b j hb => e.2.2 _ _ (by unfold nD; omega)) (fun b j q1 q2 _ => e.2.2 _ _ (by unfold nD; omega))) h2.2.1.1.1, ⟨a5, hk6, b1.2.2.1, b3⟩, (e.2.2 137 31 (by unfold nD; omega)).trans y3, fun c hc => ?_, fun fx => rfl, gA_fm_0, gA_fm_1⟩
    rw [e.2.2 141 c (by unfold nD; omega), gA_fm_o (by decide)]
    exact y4 c hc
  have hCu : kCu (φ ++ [cs']) (some φ.length) cs' (28 + 4 * φ.length) := ⟨by simp, rfl⟩
  exact ⟨⟨φ ++ [cs'], gA_fm p cs', some φ.length, cs', 28 + 4 * φ.length, l1, l2, l3, hFi, ⟨hCu, gA_fm_all h2.2.1 b1, hR, hY⟩, kLs_cg h3 (fun b j q => e.2.2 b j (by unfold nD; omega)), kIm_more (kIm_N h1 hk6 h4 e)⟩, ⟨0, fun _ => 0, kTx_0 a1 a2⟩, ⟨o, tr, kAc_cg h6 (e.2.1 _ _ (by omega) (by omega)) (fun b j q => e.2.2 b j (by unfold nD; omega))⟩, kTp_cg h7 (fun b j q => by rw [e.1]) (fun b j q => e.2.2 b j (by unfold nD; omega))⟩
end
