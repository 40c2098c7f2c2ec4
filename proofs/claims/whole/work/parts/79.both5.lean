/-! both sides: thing, crane, looked, count, feed -/
theorem mY_nt {K : Int32} {s : gm_S} {o : Option Nat} {cs : List fC} {p : gA} (h : mY K s o cs p) (e : s.1 143 p.1.2.2 = p.2.1 12 p.1.2.2 ∧ s.1 144 p.1.2.2 = mS (p.2.1 13 p.1.2.2) ∧ s.1 145 p.1.2.2 = p.2.1 14 p.1.2.2 ∧ s.1 146 p.1.2.2 = p.2.1 15 p.1.2.2 ∧ s.1 147 p.1.2.2 = p.2.1 16 p.1.2.2) : mY K (gm_si s 137 1 (nI (p.1.2.2 + 1))) o cs ((p.1.1, p.1.2.1, p.1.2.2 + 1), p.2) := by
  obtain ⟨h1, h2, h3, h4, h5⟩ := h
  obtain ⟨r1, r2, r3, r4, r5, r6⟩ := h1
  have a : ∀ b j, ¬ (b = 137 ∧ j = 1) → (gm_si s 137 1 (nI (p.1.2.2 + 1))).1 b j = s.1 b j := fun b j q => by rw [gsi_1, if_neg q]
  refine ⟨⟨(a _ _ (by omega)).trans r1, by rw [gsi_1, if_pos ⟨rfl, rfl⟩], (a _ _ (by omega)).trans r3, fun k hk => (a _ _ (by omega)).trans (r4 k hk), fun c hc => ?_, fun u hu => ?_⟩, mFm_fr h2 (fun b j hb hb2 => a _ _ (by omega)) (a _ _ (by omega)), (a _ _ (by omega)).trans h3, fun c hc => by rw [a _ _ (by omega)]; exact h4 c hc, h5⟩
  · obtain ⟨b1, b2, b3⟩ := r5 c hc
    exact ⟨(a _ _ (by omega)).trans b1, (a _ _ (by omega)).trans b2, fun k hk => (a _ _ (by omega)).trans (b3 k hk)⟩
  · have hu' : u < p.1.2.2 + 1 := hu
    have q : s.1 143 u = p.2.1 12 u ∧ s.1 144 u = mS (p.2.1 13 u) ∧ s.1 145 u = p.2.1 14 u ∧ s.1 146 u = p.2.1 15 u ∧ s.1 147 u = p.2.1 16 u := by
      by_cases e2 : u = p.1.2.2
      · rw [e2]
        exact e
      · exact r6 u (by omega)
    obtain ⟨b1, b2, b3, b4, b5⟩ := q
    exact ⟨(a _ _ (by omega)).trans b1, (a _ _ (by omega)).trans b2, (a _ _ (by omega)).trans b3, (a _ _ (by omega)).trans b4, (a _ _ (by omega)).trans b5⟩
theorem gA_addT0_o {p : gA} {g c : Int32} {o j : Nat} (h : o < 12 ∨ 16 < o ∨ j ≠ p.1.2.2) : (gA_addT0 p g c).2.1 o j = p.2.1 o j := by
  unfold gA_addT0 gA_fresh
  rw [gA_set_at, if_neg (fun e => by omega), gA_set_at, if_neg (fun e => by omega), gA_set_at, if_neg (fun e => by omega), gA_set_at, if_neg (fun e => by omega), gA_set_at, if_neg (fun e => by omega)]
theorem gA_addT0_n {p : gA} {g c : Int32} : (gA_addT0 p g c).2.1 12 p.1.2.2 = g ∧ (gA_addT0 p g c).2.1 13 p.1.2.2 = c ∧ (gA_addT0 p g c).2.1 14 p.1.2.2 = 0 := by
  unfold gA_addT0 gA_fresh
  refine ⟨?_, ?_, ?_⟩
  · rw [gA_set_at, if_neg (fun e => by omega), gA_set_at, if_neg (fun e => by omega), gA_set_at, if_neg (fun e => by omega), gA_set_at, if_neg (fun e => by omega), gA_set_at, if_pos ⟨rfl, rfl⟩]
  · rw [gA_set_at, if_neg (fun e => by omega), gA_set_at, if_neg (fun e => by omega), gA_set_at, if_neg (fun e => by omega), gA_set_at, if_pos ⟨rfl, rfl⟩]
  · rw [gA_set_at, if_neg (fun e => by omega), gA_set_at, if_neg (fun e => by omega), gA_set_at, if_pos ⟨rfl, rfl⟩]
theorem gA_all_addT {p : gA} {cs : List fC} {g : Nat} {x : Int32} (h : gA_all p cs) (h8 : p.1.2.2 < 8) (hg : g ≤ 99) (hx : x = -1 ∨ ∃ c, c < p.1.2.1 ∧ x = nI c) : gA_all (gA_addT p (nI g) x) cs := by
  obtain ⟨h1, ⟨a1, a2, a3⟩, h3, h4, h5, h6, h7, h8', h9⟩ := h
  obtain ⟨n12, n13, n14⟩ := gA_addT0_n (p := p) (g := nI g) (c := x)
  refine ⟨gA_addT_ok h1 h8, ⟨?_, fun t ht hs => ?_, fun c hc => ?_⟩, fun t ht => ?_, fun t ht => ?_, h5, h6, h7, ?_, ?_⟩
  · show (gA_addT0 p (nI g) x).2.1 17 1 ≤ 99
    rw [gA_addT0_o (by omega)]
    exact a1
  · have ht' : t < p.1.2.2 + 1 := ht
    have hs' : (gA_addT0 p (nI g) x).2.1 14 t = 1 := hs
    show (gA_addT0 p (nI g) x).2.1 16 t ≤ 98
    by_cases e : t = p.1.2.2
    · rw [e, n14] at hs'
      exact absurd hs' (by decide)
    · rw [gA_addT0_o (by omega)] at hs' ⊢
      exact a2 t (by omega) hs'
  · show 0 ≤ (gA_addT0 p (nI g) x).2.1 4 c ∧ (gA_addT0 p (nI g) x).2.1 4 c ≤ 9999
    rw [gA_addT0_o (by omega)]
    exact a3 c hc
  · have ht' : t < p.1.2.2 + 1 := ht
    show (gA_addT0 p (nI g) x).2.1 13 t = -1 ∨ ∃ c, c < p.1.2.1 ∧ (gA_addT0 p (nI g) x).2.1 13 t = nI c
    by_cases e : t = p.1.2.2
    · rw [e, n13]
      exact hx
    · rw [gA_addT0_o (by omega)]
      exact h3 t (by omega)
  · have ht' : t < p.1.2.2 + 1 := ht
    show ∃ v, v ≤ 99 ∧ (gA_addT0 p (nI g) x).2.1 12 t = nI v
    by_cases e : t = p.1.2.2
    · rw [e, n12]
      exact ⟨g, hg, rfl⟩
    · rw [gA_addT0_o (by omega)]
      exact h4 t (by omega)
  · exact (gA_addT0_o (by omega) : (gA_addT0 p (nI g) x).2.1 17 0 = _).trans h8'
  · exact (gA_addT0_o (by omega) : (gA_addT0 p (nI g) x).2.1 17 1 = _).trans h9
theorem gA_addC0_o {p : gA} {k v : Int32} {o j : Nat} (h : (o ≠ 2 ∧ o ≠ 3 ∧ o ≠ 4 ∧ o ≠ 6 + p.1.2.1) ∨ (j ≠ p.1.2.1 ∧ o ≠ 6 + p.1.2.1)) : (gA_addC0 p k v).2.1 o j = p.2.1 o j := by
  unfold gA_addC0
  rw [gA_set_at, if_neg (fun e => by omega), gA_set_at, if_neg (fun e => by omega), gA_set_at, if_neg (fun e => by omega), gA_set_at, if_neg (fun e => by omega), gA_set_at, if_neg (fun e => by omega), gA_set_at, if_neg (fun e => by omega), gA_set_at, if_neg (fun e => by omega)]
theorem gA_addC0_n {p : gA} {k v : Int32} : (gA_addC0 p k v).2.1 2 p.1.2.1 = k ∧ (gA_addC0 p k v).2.1 3 p.1.2.1 = v ∧ (gA_addC0 p k v).2.1 4 p.1.2.1 = 0 ∧ ∀ j, j < 4 → (gA_addC0 p k v).2.1 (6 + p.1.2.1) j = 0 := by
  unfold gA_addC0
  refine ⟨?_, ?_, ?_, fun j hj => ?_⟩
  · rw [gA_set_at, if_neg (fun e => by omega), gA_set_at, if_neg (fun e => by omega), gA_set_at, if_neg (fun e => by omega), gA_set_at, if_neg (fun e => by omega), gA_set_at, if_neg (fun e => by omega), gA_set_at, if_neg (fun e => by omega), gA_set_at, if_pos ⟨rfl, rfl⟩]
  · rw [gA_set_at, if_neg (fun e => by omega), gA_set_at, if_neg (fun e => by omega), gA_set_at, if_neg (fun e => by omega), gA_set_at, if_neg (fun e => by omega), gA_set_at, if_neg (fun e => by omega), gA_set_at, if_pos ⟨rfl, rfl⟩]
  · rw [gA_set_at, if_neg (fun e => by omega), gA_set_at, if_neg (fun e => by omega), gA_set_at, if_neg (fun e => by omega), gA_set_at, if_neg (fun e => by omega), gA_set_at, if_pos ⟨rfl, rfl⟩]
  · have c : j = 0 ∨ j = 1 ∨ j = 2 ∨ j = 3 := by omega
    rcases c with rfl | rfl | rfl | rfl
    · rw [gA_set_at, if_neg (fun e => by omega), gA_set_at, if_neg (fun e => by omega), gA_set_at, if_neg (fun e => by omega), gA_set_at, if_pos ⟨rfl, rfl⟩]
    · rw [gA_set_at, if_neg (fun e => by omega), gA_set_at, if_neg (fun e => by omega), gA_set_at, if_pos ⟨rfl, rfl⟩]
    · rw [gA_set_at, if_neg (fun e => by omega), gA_set_at, if_pos ⟨rfl, rfl⟩]
    · rw [gA_set_at, if_pos ⟨rfl, rfl⟩]
theorem gA_all_addC {p : gA} {cs : List fC} {k : Nat} {v : Int32} (h : gA_all p cs) (h6' : p.1.2.1 < 6) (hk : k < 7) : gA_all (gA_addC p (nI k) v) cs := by
  obtain ⟨h1, ⟨a1, a2, a3⟩, h3, h4, h5, h6, h7, h8', h9⟩ := h
  obtain ⟨n2, n3, n4, n6⟩ := gA_addC0_n (p := p) (k := nI k) (v := v)
  refine ⟨gA_addC_ok h1 h6' hk, ⟨?_, fun t ht hs => ?_, fun c hc => ?_⟩, fun t ht => ?_, fun t ht => ?_, h5, h6, h7, ?_, ?_⟩
  · show (gA_addC0 p (nI k) v).2.1 17 1 ≤ 99
    rw [gA_addC0_o (by omega)]
    exact a1
  · have hs' : (gA_addC0 p (nI k) v).2.1 14 t = 1 := hs
    show (gA_addC0 p (nI k) v).2.1 16 t ≤ 98
    rw [gA_addC0_o (by omega)] at hs' ⊢
    exact a2 t ht hs'
  · have hc' : c < p.1.2.1 + 1 := hc
    show 0 ≤ (gA_addC0 p (nI k) v).2.1 4 c ∧ (gA_addC0 p (nI k) v).2.1 4 c ≤ 9999
    by_cases e : c = p.1.2.1
    · rw [e, n4]
      decide
    · rw [gA_addC0_o (by omega)]
      exact a3 c (by omega)
  · show (gA_addC0 p (nI k) v).2.1 13 t = -1 ∨ ∃ c, c < p.1.2.1 + 1 ∧ (gA_addC0 p (nI k) v).2.1 13 t = nI c
    rw [gA_addC0_o (by omega)]
    rcases h3 t ht with e | ⟨c, hc, e⟩
    · exact Or.inl e
    · exact Or.inr ⟨c, by omega, e⟩
  · show ∃ w, w ≤ 99 ∧ (gA_addC0 p (nI k) v).2.1 12 t = nI w
    rw [gA_addC0_o (by omega)]
    exact h4 t ht
  · exact (gA_addC0_o (by omega) : (gA_addC0 p (nI k) v).2.1 17 0 = _).trans h8'
  · exact (gA_addC0_o (by omega) : (gA_addC0 p (nI k) v).2.1 17 1 = _).trans h9
theorem mY_addC {s S : gm_S} {o : Option Nat} {cs : List fC} {p : gA} {k v : Int32} (h : mY 9999 s o cs p) (h6 : p.1.2.1 < 6) (h0 : S.1 137 0 = nI (p.1.2.1 + 1)) (ek : S.1 139 p.1.2.1 = k) (ev : S.1 140 p.1.2.1 = v) (el : S.1 141 p.1.2.1 = 0) (er : ∀ j, j < 4 → S.1 142 (4 * p.1.2.1 + j) = 0) (e : ∀ b j, ¬ (b = 137 ∧ j = 0) → ¬ (139 ≤ b ∧ b ≤ 141 ∧ j = p.1.2.1) → ¬ (b = 142 ∧ 4 * p.1.2.1 ≤ j ∧ j < 4 * p.1.2.1 + 4) → S.1 b j = s.1 b j) : mY 9999 S o cs (gA_addC p k v) := by
  obtain ⟨h1, h2, h3, h4, h5, h7, h8⟩ := h
  obtain ⟨r1, r2, r3, r4, r5, r6⟩ := h1
  obtain ⟨n2, n3, n4, n6⟩ := gA_addC0_n (p := p) (k := k) (v := v)
  refine ⟨⟨h0, (e _ _ (by omega) (by omega) (by omega)).trans r2, (e _ _ (by omega) (by omega) (by omega)).trans r3, fun j hj => ?_, fun c hc => ?_, fun u hu => ?_⟩, mFm_fr h2 (fun b j hb hb2 => e _ _ (by omega) (by omega) (by omega)) (e _ _ (by omega) (by omega) (by omega)), (e _ _ (by omega) (by omega) (by omega)).trans h3, fun c hc => ?_, h5, ?_, ?_⟩
  · show _ = (gA_addC0 p k v).2.1 1 j
    rw [gA_addC0_o (by omega), e _ _ (by omega) (by omega) (by omega)]
    exact r4 j hj
  · have hc' : c < p.1.2.1 + 1 := hc
    show _ = (gA_addC0 p k v).2.1 2 c ∧ _ = (gA_addC0 p k v).2.1 3 c ∧ ∀ j, j < 4 → _ = (gA_addC0 p k v).2.1 (6 + c) j
    by_cases q : c = p.1.2.1
    · rw [q, n2, n3, ek, ev]
      exact ⟨rfl, rfl, fun j hj => (er j hj).trans (n6 j hj).symm⟩
    · rw [gA_addC0_o (by omega), gA_addC0_o (by omega), e _ _ (by omega) (by omega) (by omega), e _ _ (by omega) (by omega) (by omega)]
      obtain ⟨b1, b2, b3⟩ := r5 c (by omega)
      refine ⟨b1, b2, fun j hj => ?_⟩
      rw [gA_addC0_o (by omega), e _ _ (by omega) (by omega) (by omega)]
      exact b3 j hj
  · show _ = (gA_addC0 p k v).2.1 12 u ∧ _ = mS ((gA_addC0 p k v).2.1 13 u) ∧ _ = (gA_addC0 p k v).2.1 14 u ∧ _ = (gA_addC0 p k v).2.1 15 u ∧ _ = (gA_addC0 p k v).2.1 16 u
    rw [gA_addC0_o (by omega), gA_addC0_o (by omega), gA_addC0_o (by omega), gA_addC0_o (by omega), gA_addC0_o (by omega), e _ _ (by omega) (by omega) (by omega), e _ _ (by omega) (by omega) (by omega), e _ _ (by omega) (by omega) (by omega), e _ _ (by omega) (by omega) (by omega), e _ _ (by omega) (by omega) (by omega)]
    exact r6 u hu
  · have hc' : c < p.1.2.1 + 1 := hc
    show mL 9999 _ ((gA_addC0 p k v).2.1 4 c)
    by_cases q : c = p.1.2.1
    · rw [q, n4, el]
      exact Or.inl ⟨rfl, rfl⟩
    · rw [gA_addC0_o (by omega), e _ _ (by omega) (by omega) (by omega)]
      exact h4 c (by omega)
  · exact (gA_addC0_o (by omega) : (gA_addC0 p k v).2.1 17 0 = _).trans h7
  · exact (gA_addC0_o (by omega) : (gA_addC0 p k v).2.1 17 1 = _).trans h8
section
variable {w : Nat × (Nat → Int32)} {s : gm_S} {x y z : Int32}
theorem i_thing (h : gInv s) : gBoth w 68 119 [some (.ref 0), some (.int x), some (.int y)] [some (.ref 137), some (.int x), some (.int y)] s := by
  have h0 := h
  obtain ⟨φ, p, cu, cs, f, l1, l2, l3, h⟩ := gInv_I h
  have hk := gI_ok h
  have k6 := hk.1
  have k8 := hk.2.1
  have hR := gI_R h
  have hw := fun (a b : Int32) (Q : Option Value → gc_M → Prop) => c_within (w := w) (d := 39) (s := s) (x := a) (y := b) (Q := Q)
  have hhc := fun (z : Int32) (Q : Option Value → gc_M → Prop) => gy_hasCrane (w := w) (d := 39) (x := z) (Q := Q) hR
  have hig := fun (a : Int32) (s : gm_S) (Q : Option Value → gc_M → Prop) => m_isGrief (w := w) (d := 38) (s := s) (x := a) (Q := Q)
  have mic := fun (s' : gm_S) (hR : mR s' p) (a : Int32) (Q : Option Value → gc_M → Prop) => m_isCrane (w := w) (d := 38) (x := a) (Q := Q) hR hk
  have mc0 := mic s (gI_mR h)
  by_cases hy : y ≠ -1 ∧ gA_of p.1.2.1 y = false
  · obtain ⟨y1, b2⟩ := hy
    refine i_no h0 (-1) (fun Q => ?_) (fun Q => ?_)
    · simp only [E_X11_thing_0, E_X11_thing_1, E_X11_thing_2, E_X11_thing_5, E_X11_thing_6, E_X11_thing_9, E_X11_thing_10, E_X11_thing_13, E_X11_thing_16, E_X11_thing_17, E_X11_thing_18, E_X11_thing_19, E_X11_thing_21, E_X11_thing_24, E_X11_thing_27, E_X11_thing_29, E_X11_thing_30, E_X11_thing_31, E_X11_thing_34, E_X11_thing_37, E_X11_thing_39, E_X11_thing_42, E_X11_thing_44, E_X11_thing_45, E_X11_thing_46, E_X11_thing_49, E_X11_thing_50, E_X11_thing_51, E_X11_thing_54, rk_0, rc_83, rg_0_0, hhc, b2, y1, gb_0, List.map_nil, List.map_cons, List.sum_cons, List.sum_nil, gcat_i, gcat_r, gcat_l, Nat.reduceAdd, Nat.reduceLeDiff, Nat.zero_le, Option.toList, List.cons_append, List.nil_append, gnk_i, gnk_r, gnk_n, gi_1, Nat.reduceLT, if_true, if_false]
    · simp only [E_X12_thing_0, E_X12_thing_1, E_X12_thing_2, E_X12_thing_5, E_X12_thing_6, E_X12_thing_7, E_X12_thing_10, E_X12_thing_13, E_X12_thing_14, E_X12_thing_15, E_X12_thing_16, E_X12_thing_17, E_X12_thing_20, E_X12_thing_23, E_X12_thing_25, E_X12_thing_26, E_X12_thing_27, E_X12_thing_30, E_X12_thing_32, E_X12_thing_35, E_X12_thing_37, E_X12_thing_38, E_X12_thing_39, E_X12_thing_42, E_X12_thing_43, E_X12_thing_46, E_X12_thing_47, E_X12_thing_48, E_X12_thing_49, E_X12_thing_52, E_X12_thing_53, E_X12_thing_56, E_X12_thing_57, E_X12_thing_60, E_X12_thing_62, E_X12_thing_65, E_X12_thing_66, E_X12_thing_67, E_X12_thing_68, E_X12_thing_71, E_X12_thing_72, E_X12_thing_75, E_X12_thing_76, E_X12_thing_77, E_X12_thing_78, E_X12_thing_81, E_X12_thing_82, E_X12_thing_85, E_X12_thing_86, E_X12_thing_87, E_X12_thing_88, E_X12_thing_91, E_X12_thing_92, E_X12_thing_95, E_X12_thing_96, E_X12_thing_97, E_X12_thing_98, E_X12_thing_99, E_X12_thing_102, E_X12_thing_103, E_X12_thing_104, E_X12_thing_107, E_X12_thing_108, E_X12_thing_111, E_X12_thing_112, E_X12_thing_113, rc_137, mc0, b2, y1, gb_0, List.map_nil, List.map_cons, List.sum_cons, List.sum_nil, gcat_i, gcat_r, gcat_l, Nat.reduceAdd, Nat.reduceLeDiff, Nat.zero_le, Option.toList, List.cons_append, List.nil_append, gnk_i, gnk_r, gnk_n, gi_1, Nat.reduceLT, if_true, if_false]
  have hx : y = -1 ∨ ∃ c, c < p.1.2.1 ∧ y = nI c := by
    by_cases e : y = -1
    · exact Or.inl e
    · cases b2 : gA_of p.1.2.1 y with
      | false => exact absurd ⟨e, b2⟩ hy
      | true => exact Or.inr (gA_of_ex b2 (by omega))
  have c18 : gc_X w 40 68 0 [some (.ref 0), some (.int x), some (.int y)] [] (gm_m s) = gc_X w 40 68 18 [some (.ref 0), some (.int x), some (.int y)] [] (gm_m s) := by
    funext Q
    rcases hx with e | ⟨c, hc, e⟩
    · simp only [E_X11_thing_0, E_X11_thing_1, E_X11_thing_2, E_X11_thing_5, E_X11_thing_6, E_X11_thing_9, E_X11_thing_10, E_X11_thing_13, E_X11_thing_16, E_X11_thing_17, E_X11_thing_19, E_X11_thing_21, E_X11_thing_24, E_X11_thing_27, E_X11_thing_29, E_X11_thing_30, E_X11_thing_31, E_X11_thing_34, E_X11_thing_37, E_X11_thing_39, E_X11_thing_42, E_X11_thing_44, E_X11_thing_45, E_X11_thing_46, E_X11_thing_49, E_X11_thing_50, E_X11_thing_51, E_X11_thing_54, e, List.map_nil, List.map_cons, List.sum_cons, List.sum_nil, gcat_i, gcat_r, gcat_l, Nat.reduceAdd, Nat.reduceLeDiff, Nat.zero_le, Option.toList, List.cons_append, List.nil_append, gnk_i, gnk_r, gnk_n, gi_1, Nat.reduceLT, if_true, if_false]
    · have hn := sn_m1 c (by omega)
      have b2 := gA_of_nI hc (by omega : p.1.2.1 < 2 ^ 31)
      simp only [E_X11_thing_0, E_X11_thing_1, E_X11_thing_2, E_X11_thing_5, E_X11_thing_6, E_X11_thing_9, E_X11_thing_10, E_X11_thing_13, E_X11_thing_16, E_X11_thing_17, E_X11_thing_19, E_X11_thing_21, E_X11_thing_24, E_X11_thing_27, E_X11_thing_29, E_X11_thing_30, E_X11_thing_31, E_X11_thing_34, E_X11_thing_37, E_X11_thing_39, E_X11_thing_42, E_X11_thing_44, E_X11_thing_45, E_X11_thing_46, E_X11_thing_49, E_X11_thing_50, E_X11_thing_51, E_X11_thing_54, rk_0, rc_83, rg_0_0, hhc, b2, e, hn, gb_1, g1_0, List.map_nil, List.map_cons, List.sum_cons, List.sum_nil, gcat_i, gcat_r, gcat_l, Nat.reduceAdd, Nat.reduceLeDiff, Nat.zero_le, Option.toList, List.cons_append, List.nil_append, gnk_i, gnk_r, gnk_n, gi_1, Nat.reduceLT, if_true, if_false]
  have m15 : ∀ s', mR s' p → gc_X w 40 119 0 [some (.ref 137), some (.int x), some (.int y)] [] (gm_m s') = gc_X w 40 119 15 [some (.ref 137), some (.int x), some (.int y)] [] (gm_m s') := by
    intro s' hR'
    have mc1 := mic s' hR'
    funext Q
    rcases hx with e | ⟨c, hc, e⟩
    · simp only [E_X12_thing_0, E_X12_thing_1, E_X12_thing_2, E_X12_thing_5, E_X12_thing_6, E_X12_thing_7, E_X12_thing_10, E_X12_thing_13, E_X12_thing_14, E_X12_thing_16, E_X12_thing_17, E_X12_thing_20, E_X12_thing_23, E_X12_thing_25, E_X12_thing_26, E_X12_thing_27, E_X12_thing_30, E_X12_thing_32, E_X12_thing_35, E_X12_thing_37, E_X12_thing_38, E_X12_thing_39, E_X12_thing_42, E_X12_thing_43, E_X12_thing_46, E_X12_thing_47, E_X12_thing_48, E_X12_thing_49, E_X12_thing_52, E_X12_thing_53, E_X12_thing_56, E_X12_thing_57, E_X12_thing_60, E_X12_thing_62, E_X12_thing_65, E_X12_thing_66, E_X12_thing_67, E_X12_thing_68, E_X12_thing_71, E_X12_thing_72, E_X12_thing_75, E_X12_thing_76, E_X12_thing_77, E_X12_thing_78, E_X12_thing_81, E_X12_thing_82, E_X12_thing_85, E_X12_thing_86, E_X12_thing_87, E_X12_thing_88, E_X12_thing_91, E_X12_thing_92, E_X12_thing_95, E_X12_thing_96, E_X12_thing_97, E_X12_thing_98, E_X12_thing_99, E_X12_thing_102, E_X12_thing_103, E_X12_thing_104, E_X12_thing_107, E_X12_thing_108, E_X12_thing_111, E_X12_thing_112, E_X12_thing_113, e, List.map_nil, List.map_cons, List.sum_cons, List.sum_nil, gcat_i, gcat_r, gcat_l, Nat.reduceAdd, Nat.reduceLeDiff, Nat.zero_le, Option.toList, List.cons_append, List.nil_append, gnk_i, gnk_r, gnk_n, gi_1, Nat.reduceLT, if_true, if_false]
    · have hn := sn_m1 c (by omega)
      have b2 := gA_of_nI hc (by omega : p.1.2.1 < 2 ^ 31)
      simp only [E_X12_thing_0, E_X12_thing_1, E_X12_thing_2, E_X12_thing_5, E_X12_thing_6, E_X12_thing_7, E_X12_thing_10, E_X12_thing_13, E_X12_thing_14, E_X12_thing_16, E_X12_thing_17, E_X12_thing_20, E_X12_thing_23, E_X12_thing_25, E_X12_thing_26, E_X12_thing_27, E_X12_thing_30, E_X12_thing_32, E_X12_thing_35, E_X12_thing_37, E_X12_thing_38, E_X12_thing_39, E_X12_thing_42, E_X12_thing_43, E_X12_thing_46, E_X12_thing_47, E_X12_thing_48, E_X12_thing_49, E_X12_thing_52, E_X12_thing_53, E_X12_thing_56, E_X12_thing_57, E_X12_thing_60, E_X12_thing_62, E_X12_thing_65, E_X12_thing_66, E_X12_thing_67, E_X12_thing_68, E_X12_thing_71, E_X12_thing_72, E_X12_thing_75, E_X12_thing_76, E_X12_thing_77, E_X12_thing_78, E_X12_thing_81, E_X12_thing_82, E_X12_thing_85, E_X12_thing_86, E_X12_thing_87, E_X12_thing_88, E_X12_thing_91, E_X12_thing_92, E_X12_thing_95, E_X12_thing_96, E_X12_thing_97, E_X12_thing_98, E_X12_thing_99, E_X12_thing_102, E_X12_thing_103, E_X12_thing_104, E_X12_thing_107, E_X12_thing_108, E_X12_thing_111, E_X12_thing_112, E_X12_thing_113, rc_137, mc1, b2, e, hn, gb_1, g1_0, List.map_nil, List.map_cons, List.sum_cons, List.sum_nil, gcat_i, gcat_r, gcat_l, Nat.reduceAdd, Nat.reduceLeDiff, Nat.zero_le, Option.toList, List.cons_append, List.nil_append, gnk_i, gnk_r, gnk_n, gi_1, Nat.reduceLT, if_true, if_false]
  have c9 : s.1 83 9 = nI p.1.2.2 := hR.2.2.2.2.2.2.1
  have m9 := (gI_mR h).2.1
  cases b1 : gB_in x 0 99 with
  | false =>
    refine i_no h0 (-2) (fun Q => ?_) (fun Q => ?_)
    · rw [c18]
      simp only [E_X11_thing_0, E_X11_thing_1, E_X11_thing_2, E_X11_thing_5, E_X11_thing_6, E_X11_thing_9, E_X11_thing_10, E_X11_thing_13, E_X11_thing_16, E_X11_thing_17, E_X11_thing_18, E_X11_thing_19, E_X11_thing_21, E_X11_thing_24, E_X11_thing_27, E_X11_thing_29, E_X11_thing_30, E_X11_thing_31, E_X11_thing_34, E_X11_thing_37, E_X11_thing_39, E_X11_thing_42, E_X11_thing_44, E_X11_thing_45, E_X11_thing_46, E_X11_thing_49, E_X11_thing_50, E_X11_thing_51, E_X11_thing_54, hw, b1, gb_0, List.map_nil, List.map_cons, List.sum_cons, List.sum_nil, gcat_i, gcat_r, gcat_l, Nat.reduceAdd, Nat.reduceLeDiff, Nat.zero_le, Option.toList, List.cons_append, List.nil_append, gnk_i, gnk_r, gnk_n, gi_1, Nat.reduceLT, if_true, if_false]
    · rw [m15 s (gI_mR h)]
      simp only [E_X12_thing_0, E_X12_thing_1, E_X12_thing_2, E_X12_thing_5, E_X12_thing_6, E_X12_thing_7, E_X12_thing_10, E_X12_thing_13, E_X12_thing_14, E_X12_thing_15, E_X12_thing_16, E_X12_thing_17, E_X12_thing_20, E_X12_thing_23, E_X12_thing_25, E_X12_thing_26, E_X12_thing_27, E_X12_thing_30, E_X12_thing_32, E_X12_thing_35, E_X12_thing_37, E_X12_thing_38, E_X12_thing_39, E_X12_thing_42, E_X12_thing_43, E_X12_thing_46, E_X12_thing_47, E_X12_thing_48, E_X12_thing_49, E_X12_thing_52, E_X12_thing_53, E_X12_thing_56, E_X12_thing_57, E_X12_thing_60, E_X12_thing_62, E_X12_thing_65, E_X12_thing_66, E_X12_thing_67, E_X12_thing_68, E_X12_thing_71, E_X12_thing_72, E_X12_thing_75, E_X12_thing_76, E_X12_thing_77, E_X12_thing_78, E_X12_thing_81, E_X12_thing_82, E_X12_thing_85, E_X12_thing_86, E_X12_thing_87, E_X12_thing_88, E_X12_thing_91, E_X12_thing_92, E_X12_thing_95, E_X12_thing_96, E_X12_thing_97, E_X12_thing_98, E_X12_thing_99, E_X12_thing_102, E_X12_thing_103, E_X12_thing_104, E_X12_thing_107, E_X12_thing_108, E_X12_thing_111, E_X12_thing_112, E_X12_thing_113, rc_137, hig, b1, gb_0, List.map_nil, List.map_cons, List.sum_cons, List.sum_nil, gcat_i, gcat_r, gcat_l, Nat.reduceAdd, Nat.reduceLeDiff, Nat.zero_le, Option.toList, List.cons_append, List.nil_append, gnk_i, gnk_r, gnk_n, gi_1, Nat.reduceLT, if_true, if_false]
  | true =>
    obtain ⟨g, hg, e1⟩ := gB_in_ex (k := 99) b1 (by decide)
    subst e1
    by_cases h8 : p.1.2.2 = 8
    · rw [h8] at c9 m9
      have e8 : nI 8 = 8 := rfl
      have l8 : ¬ nI 8 < 8 := by decide
      refine i_no h0 (-4) (fun Q => ?_) (fun Q => ?_)
      · rw [c18]
        simp only [E_X11_thing_0, E_X11_thing_1, E_X11_thing_2, E_X11_thing_5, E_X11_thing_6, E_X11_thing_9, E_X11_thing_10, E_X11_thing_13, E_X11_thing_16, E_X11_thing_17, E_X11_thing_18, E_X11_thing_19, E_X11_thing_21, E_X11_thing_24, E_X11_thing_27, E_X11_thing_29, E_X11_thing_30, E_X11_thing_31, E_X11_thing_34, E_X11_thing_37, E_X11_thing_39, E_X11_thing_42, E_X11_thing_44, E_X11_thing_45, E_X11_thing_46, E_X11_thing_49, E_X11_thing_50, E_X11_thing_51, E_X11_thing_54, rk_0, rk_83, rg_0_0, rg_83_9, c9, l8, hw, b1, gb_1, g1_0, List.map_nil, List.map_cons, List.sum_cons, List.sum_nil, gcat_i, gcat_r, gcat_l, Nat.reduceAdd, Nat.reduceLeDiff, Nat.zero_le, Option.toList, List.cons_append, List.nil_append, gnk_i, gnk_r, gnk_n, gi_1, Nat.reduceLT, if_true, if_false]
      · rw [m15 s (gI_mR h)]
        simp only [E_X12_thing_0, E_X12_thing_1, E_X12_thing_2, E_X12_thing_5, E_X12_thing_6, E_X12_thing_7, E_X12_thing_10, E_X12_thing_13, E_X12_thing_14, E_X12_thing_15, E_X12_thing_16, E_X12_thing_17, E_X12_thing_20, E_X12_thing_23, E_X12_thing_25, E_X12_thing_26, E_X12_thing_27, E_X12_thing_30, E_X12_thing_32, E_X12_thing_35, E_X12_thing_37, E_X12_thing_38, E_X12_thing_39, E_X12_thing_42, E_X12_thing_43, E_X12_thing_46, E_X12_thing_47, E_X12_thing_48, E_X12_thing_49, E_X12_thing_52, E_X12_thing_53, E_X12_thing_56, E_X12_thing_57, E_X12_thing_60, E_X12_thing_62, E_X12_thing_65, E_X12_thing_66, E_X12_thing_67, E_X12_thing_68, E_X12_thing_71, E_X12_thing_72, E_X12_thing_75, E_X12_thing_76, E_X12_thing_77, E_X12_thing_78, E_X12_thing_81, E_X12_thing_82, E_X12_thing_85, E_X12_thing_86, E_X12_thing_87, E_X12_thing_88, E_X12_thing_91, E_X12_thing_92, E_X12_thing_95, E_X12_thing_96, E_X12_thing_97, E_X12_thing_98, E_X12_thing_99, E_X12_thing_102, E_X12_thing_103, E_X12_thing_104, E_X12_thing_107, E_X12_thing_108, E_X12_thing_111, E_X12_thing_112, E_X12_thing_113, rk_137, rc_137, rg_137_1, m9, e8, hig, b1, gb_1, g1_0, List.map_nil, List.map_cons, List.sum_cons, List.sum_nil, gcat_i, gcat_r, gcat_l, Nat.reduceAdd, Nat.reduceLeDiff, Nat.zero_le, Option.toList, List.cons_append, List.nil_append, gnk_i, gnk_r, gnk_n, gi_1, Nat.reduceLT, if_true, if_false]
    have h8' : p.1.2.2 < 8 := by omega
    have l8 : nI p.1.2.2 < 8 := nI_lt (b := 8) h8' (by omega)
    unfold gBoth
    rw [c18]
    simp only [E_X11_thing_0, E_X11_thing_1, E_X11_thing_2, E_X11_thing_5, E_X11_thing_6, E_X11_thing_9, E_X11_thing_10, E_X11_thing_13, E_X11_thing_16, E_X11_thing_17, E_X11_thing_18, E_X11_thing_19, E_X11_thing_21, E_X11_thing_24, E_X11_thing_27, E_X11_thing_29, E_X11_thing_30, E_X11_thing_31, E_X11_thing_34, E_X11_thing_37, E_X11_thing_39, E_X11_thing_42, E_X11_thing_44, E_X11_thing_45, E_X11_thing_46, E_X11_thing_49, E_X11_thing_50, E_X11_thing_51, E_X11_thing_54, rk_0, rk_83, rc_83, rg_0_0, rg_83_9, c9, l8, hw, b1, gb_1, g1_0, List.map_nil, List.map_cons, List.sum_cons, List.sum_nil, gcat_i, gcat_r, gcat_l, Nat.reduceAdd, Nat.reduceLeDiff, Nat.zero_le, Option.toList, List.cons_append, List.nil_append, gnk_i, gnk_r, gnk_n, gi_1, Nat.reduceLT, if_true, if_false]
    refine gy_addThing hR h8' (fun s1 hF hR1 => ?_)
    simp only [E_X11_thing_0, E_X11_thing_1, E_X11_thing_2, E_X11_thing_5, E_X11_thing_6, E_X11_thing_9, E_X11_thing_10, E_X11_thing_13, E_X11_thing_16, E_X11_thing_17, E_X11_thing_18, E_X11_thing_19, E_X11_thing_21, E_X11_thing_24, E_X11_thing_27, E_X11_thing_29, E_X11_thing_30, E_X11_thing_31, E_X11_thing_34, E_X11_thing_37, E_X11_thing_39, E_X11_thing_42, E_X11_thing_44, E_X11_thing_45, E_X11_thing_46, E_X11_thing_49, E_X11_thing_50, E_X11_thing_51, E_X11_thing_54, List.map_nil, List.map_cons, List.sum_cons, List.sum_nil, gcat_i, gcat_r, gcat_l, Nat.reduceAdd, Nat.reduceLeDiff, Nat.zero_le, Option.toList, List.cons_append, List.nil_append, gnk_i, gnk_r, gnk_n, gi_1, Nat.reduceLT, if_true, if_false]
    refine ⟨s1, rfl, ?_⟩
    have hmY : mY 9999 s1 cu cs p := mY_cg h.2.1.2.2.2 hk (fun b j q => hF.2 b j (by omega))
    rw [m15 s1 hmY.1]
    have m91 := hmY.1.2.1
    have n8 : ¬ nI p.1.2.2 = 8 := fun e => h8 ((nI_eq (b := 8) (by omega) (by omega)).mp e)
    have i1 : vp_in (nI p.1.2.2) 8 := vp_in_nI (by omega) (by omega)
    have i2 : (nI p.1.2.2).toNatClampNeg = p.1.2.2 := nI_clamp (by omega)
    have hs1 : nI p.1.2.2 + 1 = nI (p.1.2.2 + 1) := nI_1 _
    have hs2 : nI (p.1.2.2 + 1) - 1 = nI p.1.2.2 := nI_pred _
    have hs : gc_X w 40 119 15 [some (.ref 137), some (.int (nI g)), some (.int y)] [] (gm_m s1) = (fun Q => Q (some (.int (nI p.1.2.2))) (gm_m (gm_si (gm_si (gm_si (gm_si (gm_si (gm_si s1 143 p.1.2.2 (nI g)) 144 p.1.2.2 (mS y)) 145 p.1.2.2 0) 146 p.1.2.2 0) 147 p.1.2.2 0) 137 1 (nI (p.1.2.2 + 1))))) := by
      funext Q
      rcases hx with e | ⟨c, hc, e⟩
      · have e5 : mS y = -5 := by rw [e]; rfl
        have hneg : ¬ (0 : Int32) ≤ -1 := by decide
        rw [e5, e]
        simp only [E_X12_thing_0, E_X12_thing_1, E_X12_thing_2, E_X12_thing_5, E_X12_thing_6, E_X12_thing_7, E_X12_thing_10, E_X12_thing_13, E_X12_thing_14, E_X12_thing_15, E_X12_thing_16, E_X12_thing_17, E_X12_thing_20, E_X12_thing_23, E_X12_thing_25, E_X12_thing_26, E_X12_thing_27, E_X12_thing_30, E_X12_thing_32, E_X12_thing_35, E_X12_thing_37, E_X12_thing_38, E_X12_thing_39, E_X12_thing_42, E_X12_thing_43, E_X12_thing_46, E_X12_thing_47, E_X12_thing_48, E_X12_thing_49, E_X12_thing_52, E_X12_thing_53, E_X12_thing_56, E_X12_thing_57, E_X12_thing_60, E_X12_thing_62, E_X12_thing_65, E_X12_thing_66, E_X12_thing_67, E_X12_thing_68, E_X12_thing_71, E_X12_thing_72, E_X12_thing_75, E_X12_thing_76, E_X12_thing_77, E_X12_thing_78, E_X12_thing_81, E_X12_thing_82, E_X12_thing_85, E_X12_thing_86, E_X12_thing_87, E_X12_thing_88, E_X12_thing_91, E_X12_thing_92, E_X12_thing_95, E_X12_thing_96, E_X12_thing_97, E_X12_thing_98, E_X12_thing_99, E_X12_thing_102, E_X12_thing_103, E_X12_thing_104, E_X12_thing_107, E_X12_thing_108, E_X12_thing_111, E_X12_thing_112, E_X12_thing_113, rk_137, rc_137, rg_137_1, rg_137_8, rg_137_9, rg_137_10, rg_137_11, rg_137_12, rp_137_1, ra_143, rs_143, ra_144, rs_144, ra_145, rs_145, ra_146, rs_146, ra_147, rs_147, i1, i2, m91, n8, hs1, hs2, hneg, hig, b1, gb_1, g1_0, gsi_1, Nat.reduceEqDiff, false_and, and_self, List.map_nil, List.map_cons, List.sum_cons, List.sum_nil, gcat_i, gcat_r, gcat_l, Nat.reduceAdd, Nat.reduceLeDiff, Nat.zero_le, Option.toList, List.cons_append, List.nil_append, gnk_i, gnk_r, gnk_n, gi_1, Nat.reduceLT, if_true, if_false]
      · have e5 : mS y = nI c := by rw [e]; exact mS_c (by omega)
        have hpos : (0 : Int32) ≤ nI c := nI_pos' (by omega)
        rw [e5, e]
        simp only [E_X12_thing_0, E_X12_thing_1, E_X12_thing_2, E_X12_thing_5, E_X12_thing_6, E_X12_thing_7, E_X12_thing_10, E_X12_thing_13, E_X12_thing_14, E_X12_thing_15, E_X12_thing_16, E_X12_thing_17, E_X12_thing_20, E_X12_thing_23, E_X12_thing_25, E_X12_thing_26, E_X12_thing_27, E_X12_thing_30, E_X12_thing_32, E_X12_thing_35, E_X12_thing_37, E_X12_thing_38, E_X12_thing_39, E_X12_thing_42, E_X12_thing_43, E_X12_thing_46, E_X12_thing_47, E_X12_thing_48, E_X12_thing_49, E_X12_thing_52, E_X12_thing_53, E_X12_thing_56, E_X12_thing_57, E_X12_thing_60, E_X12_thing_62, E_X12_thing_65, E_X12_thing_66, E_X12_thing_67, E_X12_thing_68, E_X12_thing_71, E_X12_thing_72, E_X12_thing_75, E_X12_thing_76, E_X12_thing_77, E_X12_thing_78, E_X12_thing_81, E_X12_thing_82, E_X12_thing_85, E_X12_thing_86, E_X12_thing_87, E_X12_thing_88, E_X12_thing_91, E_X12_thing_92, E_X12_thing_95, E_X12_thing_96, E_X12_thing_97, E_X12_thing_98, E_X12_thing_99, E_X12_thing_102, E_X12_thing_103, E_X12_thing_104, E_X12_thing_107, E_X12_thing_108, E_X12_thing_111, E_X12_thing_112, E_X12_thing_113, rk_137, rc_137, rg_137_1, rg_137_8, rg_137_9, rg_137_10, rg_137_11, rg_137_12, rp_137_1, ra_143, rs_143, ra_144, rs_144, ra_145, rs_145, ra_146, rs_146, ra_147, rs_147, i1, i2, m91, n8, hs1, hs2, hpos, hig, b1, gb_1, g1_0, gsi_1, Nat.reduceEqDiff, false_and, and_self, List.map_nil, List.map_cons, List.sum_cons, List.sum_nil, gcat_i, gcat_r, gcat_l, Nat.reduceAdd, Nat.reduceLeDiff, Nat.zero_le, Option.toList, List.cons_append, List.nil_append, gnk_i, gnk_r, gnk_n, gi_1, Nat.reduceLT, if_true, if_false]
    rw [hs]
    have hY2 := mY_set (i := 16) (t := p.1.2.2) (x := 0) (mY_set (i := 15) (t := p.1.2.2) (x := 0) (mY_set (i := 14) (t := p.1.2.2) (x := 0) (mY_sent (t := p.1.2.2) (x := y) (mY_set (i := 12) (t := p.1.2.2) (x := nI g) hmY k6 (by omega)) (gA_ok_set hk (by omega))) k6 (by omega)) k6 (by omega)) k6 (by omega)
    have hY3 := mY_nt hY2 (by
      refine ⟨?_, ?_, ?_, ?_, ?_⟩
      · rw [gsi_1, if_neg (fun e => by omega), gsi_1, if_neg (fun e => by omega), gsi_1, if_neg (fun e => by omega), gsi_1, if_neg (fun e => by omega), gsi_1, if_pos ⟨rfl, rfl⟩, gA_set_o (by omega), gA_set_o (by omega), gA_set_o (by omega), gA_set_o (by omega), gA_set_at, if_pos ⟨rfl, rfl⟩]
      · rw [gsi_1, if_neg (fun e => by omega), gsi_1, if_neg (fun e => by omega), gsi_1, if_neg (fun e => by omega), gsi_1, if_pos ⟨rfl, rfl⟩, gA_set_o (by omega), gA_set_o (by omega), gA_set_o (by omega), gA_set_at, if_pos ⟨rfl, rfl⟩]
      · rw [gsi_1, if_neg (fun e => by omega), gsi_1, if_neg (fun e => by omega), gsi_1, if_pos ⟨rfl, rfl⟩, gA_set_o (by omega), gA_set_o (by omega), gA_set_at, if_pos ⟨rfl, rfl⟩]
      · rw [gsi_1, if_neg (fun e => by omega), gsi_1, if_pos ⟨rfl, rfl⟩, gA_set_o (by omega), gA_set_at, if_pos ⟨rfl, rfl⟩]
      · rw [gsi_1, if_pos ⟨rfl, rfl⟩, gA_set_at, if_pos ⟨rfl, rfl⟩])
    have hf := kCu_f h.2.1.1 h.1.2.2.1
    exact ⟨_, rfl, (by first | exact trivial | rfl), ⟨_, rfl⟩, gI_Y (p' := gA_addT p (nI g) y) h (gAg_si (gAg_si (gAg_si (gAg_si (gAg_si (gAg_si (pY_F hF) (by unfold pY; omega)) (by unfold pY; omega)) (by unfold pY; omega)) (by unfold pY; omega)) (by unfold pY; omega)) (by unfold pY; omega)) (Nat.le_succ _) (gA_all_addT h.2.1.2.1 h8' hg hx) (gR_cg hR1 k6 rfl (fun b j q => by rw [gsi_1, if_neg (fun e => by omega), gsi_1, if_neg (fun e => by omega), gsi_1, if_neg (fun e => by omega), gsi_1, if_neg (fun e => by omega), gsi_1, if_neg (fun e => by omega), gsi_1, if_neg (fun e => by omega)])) hY3⟩
theorem i_crane (h : gInv s) : gBoth w 66 118 [some (.ref 0), some (.int x), some (.int y)] [some (.ref 137), some (.int x), some (.int y), none] s := by
  have h0 := h
  obtain ⟨φ, p, cu, cs, f, l1, l2, l3, h⟩ := gInv_I h
  have hk := gI_ok h
  have k6 := hk.1
  have hR := gI_R h
  have hw := fun (a b : Int32) (Q : Option Value → gc_M → Prop) => c_within (w := w) (d := 39) (s := s) (x := a) (y := b) (Q := Q)
  have hin := fun (a b c : Int32) (s : gm_S) (Q : Option Value → gc_M → Prop) => m_in (w := w) (d := 39) (s := s) (x := a) (y := b) (z := c) (Q := Q)
  have c4 : s.1 83 4 = nI p.1.2.1 := hR.2.2.2.2.2.1
  have m4 := (gI_mR h).1
  cases b1 : gB_in x 0 6 with
  | false =>
    refine i_no h0 (-1) (fun Q => ?_) (fun Q => ?_)
    · simp only [E_X11_crane_0, E_X11_crane_1, E_X11_crane_3, E_X11_crane_6, E_X11_crane_9, E_X11_crane_10, E_X11_crane_11, E_X11_crane_12, E_X11_crane_14, E_X11_crane_17, E_X11_crane_20, E_X11_crane_22, E_X11_crane_23, E_X11_crane_24, E_X11_crane_27, E_X11_crane_30, E_X11_crane_32, E_X11_crane_35, E_X11_crane_37, E_X11_crane_38, E_X11_crane_39, E_X11_crane_42, E_X11_crane_43, E_X11_crane_44, E_X11_crane_47, hw, b1, gb_0, List.map_nil, List.map_cons, List.sum_cons, List.sum_nil, gcat_i, gcat_r, gcat_l, Nat.reduceAdd, Nat.reduceLeDiff, Nat.zero_le, Option.toList, List.cons_append, List.nil_append, gnk_i, gnk_r, gnk_n, gi_1, Nat.reduceLT, if_true, if_false]
    · simp only [E_X12_crane_0, E_X12_crane_1, E_X12_crane_2, E_X12_crane_3, E_X12_crane_5, E_X12_crane_8, E_X12_crane_11, E_X12_crane_12, E_X12_crane_13, E_X12_crane_14, E_X12_crane_15, E_X12_crane_16, E_X12_crane_18, E_X12_crane_21, E_X12_crane_24, E_X12_crane_26, E_X12_crane_27, E_X12_crane_28, E_X12_crane_31, E_X12_crane_33, E_X12_crane_36, E_X12_crane_38, E_X12_crane_39, E_X12_crane_40, E_X12_crane_43, E_X12_crane_44, E_X12_crane_47, E_X12_crane_48, E_X12_crane_49, E_X12_crane_50, E_X12_crane_53, E_X12_crane_54, E_X12_crane_57, E_X12_crane_58, E_X12_crane_59, E_X12_crane_60, E_X12_crane_63, E_X12_crane_64, E_X12_crane_67, E_X12_crane_68, E_X12_crane_69, E_X12_crane_70, E_X12_crane_71, E_X12_crane_72, E_X12_crane_73, E_X12_crane_76, E_X12_crane_77, E_X12_crane_80, E_X12_crane_81, E_X12_crane_82, E_X12_crane_85, E_X12_crane_86, E_X12_crane_87, E_X12_crane_88, E_X12_crane_89, E_X12_crane_90, E_X12_crane_93, E_X12_crane_96, E_X12_crane_97, E_X12_crane_98, E_X12_crane_101, E_X12_crane_102, E_X12_crane_103, E_X12_crane_106, E_X12_crane_107, E_X12_crane_110, E_X12_crane_111, E_X12_crane_112, rc_137, hin, b1, gb_0, List.map_nil, List.map_cons, List.sum_cons, List.sum_nil, gcat_i, gcat_r, gcat_l, Nat.reduceAdd, Nat.reduceLeDiff, Nat.zero_le, Option.toList, List.cons_append, List.nil_append, gnk_i, gnk_r, gnk_n, gi_1, Nat.reduceLT, if_true, if_false]
  | true =>
    cases b2 : gB_in y 0 9 with
    | false =>
      refine i_no h0 (-2) (fun Q => ?_) (fun Q => ?_)
      · simp only [E_X11_crane_0, E_X11_crane_1, E_X11_crane_3, E_X11_crane_6, E_X11_crane_9, E_X11_crane_10, E_X11_crane_11, E_X11_crane_12, E_X11_crane_14, E_X11_crane_17, E_X11_crane_20, E_X11_crane_22, E_X11_crane_23, E_X11_crane_24, E_X11_crane_27, E_X11_crane_30, E_X11_crane_32, E_X11_crane_35, E_X11_crane_37, E_X11_crane_38, E_X11_crane_39, E_X11_crane_42, E_X11_crane_43, E_X11_crane_44, E_X11_crane_47, hw, b1, b2, gb_0, gb_1, g1_0, List.map_nil, List.map_cons, List.sum_cons, List.sum_nil, gcat_i, gcat_r, gcat_l, Nat.reduceAdd, Nat.reduceLeDiff, Nat.zero_le, Option.toList, List.cons_append, List.nil_append, gnk_i, gnk_r, gnk_n, gi_1, Nat.reduceLT, if_true, if_false]
      · simp only [E_X12_crane_0, E_X12_crane_1, E_X12_crane_2, E_X12_crane_3, E_X12_crane_5, E_X12_crane_8, E_X12_crane_11, E_X12_crane_12, E_X12_crane_13, E_X12_crane_14, E_X12_crane_15, E_X12_crane_16, E_X12_crane_18, E_X12_crane_21, E_X12_crane_24, E_X12_crane_26, E_X12_crane_27, E_X12_crane_28, E_X12_crane_31, E_X12_crane_33, E_X12_crane_36, E_X12_crane_38, E_X12_crane_39, E_X12_crane_40, E_X12_crane_43, E_X12_crane_44, E_X12_crane_47, E_X12_crane_48, E_X12_crane_49, E_X12_crane_50, E_X12_crane_53, E_X12_crane_54, E_X12_crane_57, E_X12_crane_58, E_X12_crane_59, E_X12_crane_60, E_X12_crane_63, E_X12_crane_64, E_X12_crane_67, E_X12_crane_68, E_X12_crane_69, E_X12_crane_70, E_X12_crane_71, E_X12_crane_72, E_X12_crane_73, E_X12_crane_76, E_X12_crane_77, E_X12_crane_80, E_X12_crane_81, E_X12_crane_82, E_X12_crane_85, E_X12_crane_86, E_X12_crane_87, E_X12_crane_88, E_X12_crane_89, E_X12_crane_90, E_X12_crane_93, E_X12_crane_96, E_X12_crane_97, E_X12_crane_98, E_X12_crane_101, E_X12_crane_102, E_X12_crane_103, E_X12_crane_106, E_X12_crane_107, E_X12_crane_110, E_X12_crane_111, E_X12_crane_112, rc_137, hin, b1, b2, gb_0, gb_1, g1_0, List.map_nil, List.map_cons, List.sum_cons, List.sum_nil, gcat_i, gcat_r, gcat_l, Nat.reduceAdd, Nat.reduceLeDiff, Nat.zero_le, Option.toList, List.cons_append, List.nil_append, gnk_i, gnk_r, gnk_n, gi_1, Nat.reduceLT, if_true, if_false]
    | true =>
      by_cases h6 : p.1.2.1 = 6
      · rw [h6] at c4 m4
        have e8 : nI 6 = 6 := rfl
        have l8 : ¬ nI 6 < 6 := by decide
        refine i_no h0 (-4) (fun Q => ?_) (fun Q => ?_)
        · simp only [E_X11_crane_0, E_X11_crane_1, E_X11_crane_3, E_X11_crane_6, E_X11_crane_9, E_X11_crane_10, E_X11_crane_11, E_X11_crane_12, E_X11_crane_14, E_X11_crane_17, E_X11_crane_20, E_X11_crane_22, E_X11_crane_23, E_X11_crane_24, E_X11_crane_27, E_X11_crane_30, E_X11_crane_32, E_X11_crane_35, E_X11_crane_37, E_X11_crane_38, E_X11_crane_39, E_X11_crane_42, E_X11_crane_43, E_X11_crane_44, E_X11_crane_47, rk_0, rk_83, rg_0_0, rg_83_4, c4, l8, hw, b1, b2, gb_1, g1_0, List.map_nil, List.map_cons, List.sum_cons, List.sum_nil, gcat_i, gcat_r, gcat_l, Nat.reduceAdd, Nat.reduceLeDiff, Nat.zero_le, Option.toList, List.cons_append, List.nil_append, gnk_i, gnk_r, gnk_n, gi_1, Nat.reduceLT, if_true, if_false]
        · simp only [E_X12_crane_0, E_X12_crane_1, E_X12_crane_2, E_X12_crane_3, E_X12_crane_5, E_X12_crane_8, E_X12_crane_11, E_X12_crane_12, E_X12_crane_13, E_X12_crane_14, E_X12_crane_15, E_X12_crane_16, E_X12_crane_18, E_X12_crane_21, E_X12_crane_24, E_X12_crane_26, E_X12_crane_27, E_X12_crane_28, E_X12_crane_31, E_X12_crane_33, E_X12_crane_36, E_X12_crane_38, E_X12_crane_39, E_X12_crane_40, E_X12_crane_43, E_X12_crane_44, E_X12_crane_47, E_X12_crane_48, E_X12_crane_49, E_X12_crane_50, E_X12_crane_53, E_X12_crane_54, E_X12_crane_57, E_X12_crane_58, E_X12_crane_59, E_X12_crane_60, E_X12_crane_63, E_X12_crane_64, E_X12_crane_67, E_X12_crane_68, E_X12_crane_69, E_X12_crane_70, E_X12_crane_71, E_X12_crane_72, E_X12_crane_73, E_X12_crane_76, E_X12_crane_77, E_X12_crane_80, E_X12_crane_81, E_X12_crane_82, E_X12_crane_85, E_X12_crane_86, E_X12_crane_87, E_X12_crane_88, E_X12_crane_89, E_X12_crane_90, E_X12_crane_93, E_X12_crane_96, E_X12_crane_97, E_X12_crane_98, E_X12_crane_101, E_X12_crane_102, E_X12_crane_103, E_X12_crane_106, E_X12_crane_107, E_X12_crane_110, E_X12_crane_111, E_X12_crane_112, rk_137, rc_137, rg_137_0, m4, e8, hin, b1, b2, gb_1, g1_0, List.map_nil, List.map_cons, List.sum_cons, List.sum_nil, gcat_i, gcat_r, gcat_l, Nat.reduceAdd, Nat.reduceLeDiff, Nat.zero_le, Option.toList, List.cons_append, List.nil_append, gnk_i, gnk_r, gnk_n, gi_1, Nat.reduceLT, if_true, if_false]
      have h6' : p.1.2.1 < 6 := by omega
      obtain ⟨k, hk6, e1⟩ := gB_in_ex (k := 6) b1 (by decide)
      subst e1
      have l8 : nI p.1.2.1 < 6 := nI_lt (b := 6) h6' (by omega)
      unfold gBoth
      simp only [E_X11_crane_0, E_X11_crane_1, E_X11_crane_3, E_X11_crane_6, E_X11_crane_9, E_X11_crane_10, E_X11_crane_11, E_X11_crane_12, E_X11_crane_14, E_X11_crane_17, E_X11_crane_20, E_X11_crane_22, E_X11_crane_23, E_X11_crane_24, E_X11_crane_27, E_X11_crane_30, E_X11_crane_32, E_X11_crane_35, E_X11_crane_37, E_X11_crane_38, E_X11_crane_39, E_X11_crane_42, E_X11_crane_43, E_X11_crane_44, E_X11_crane_47, rk_0, rk_83, rc_83, rg_0_0, rg_83_4, c4, l8, hw, b1, b2, gb_1, g1_0, List.map_nil, List.map_cons, List.sum_cons, List.sum_nil, gcat_i, gcat_r, gcat_l, Nat.reduceAdd, Nat.reduceLeDiff, Nat.zero_le, Option.toList, List.cons_append, List.nil_append, gnk_i, gnk_r, gnk_n, gi_1, Nat.reduceLT, if_true, if_false]
      refine gy_addCrane hR h6' (fun s1 hF hR1 => ?_)
      simp only [E_X11_crane_0, E_X11_crane_1, E_X11_crane_3, E_X11_crane_6, E_X11_crane_9, E_X11_crane_10, E_X11_crane_11, E_X11_crane_12, E_X11_crane_14, E_X11_crane_17, E_X11_crane_20, E_X11_crane_22, E_X11_crane_23, E_X11_crane_24, E_X11_crane_27, E_X11_crane_30, E_X11_crane_32, E_X11_crane_35, E_X11_crane_37, E_X11_crane_38, E_X11_crane_39, E_X11_crane_42, E_X11_crane_43, E_X11_crane_44, E_X11_crane_47, List.map_nil, List.map_cons, List.sum_cons, List.sum_nil, gcat_i, gcat_r, gcat_l, Nat.reduceAdd, Nat.reduceLeDiff, Nat.zero_le, Option.toList, List.cons_append, List.nil_append, gnk_i, gnk_r, gnk_n, gi_1, Nat.reduceLT, if_true, if_false]
      refine ⟨s1, rfl, ?_⟩
      have hmY : mY 9999 s1 cu cs p := mY_cg h.2.1.2.2.2 hk (fun b j q => hF.2 b j (by omega))
      have m41 := hmY.1.1
      have n6 : ¬ nI p.1.2.1 = 6 := fun e => h6 ((nI_eq (b := 6) (by omega) (by omega)).mp e)
      have i1 : vp_in (nI p.1.2.1) 6 := vp_in_nI (by omega) (by omega)
      have i2 : (nI p.1.2.1).toNatClampNeg = p.1.2.1 := nI_clamp (by omega)
      have hs1 : nI p.1.2.1 + 1 = nI (p.1.2.1 + 1) := nI_1 _
      have hs2 : nI (p.1.2.1 + 1) - 1 = nI p.1.2.1 := nI_pred _
      have e4 : (4 : Int32) * nI p.1.2.1 = nI (4 * p.1.2.1) := gI_mul (a := 4)
      have r0 : nI (4 * p.1.2.1) + 0 = nI (4 * p.1.2.1 + 0) := nI_add _ 0
      have r1 : nI (4 * p.1.2.1) + 1 = nI (4 * p.1.2.1 + 1) := nI_add _ 1
      have r2 : nI (4 * p.1.2.1) + 2 = nI (4 * p.1.2.1 + 2) := nI_add _ 2
      have r3 : nI (4 * p.1.2.1) + 3 = nI (4 * p.1.2.1 + 3) := nI_add _ 3
      have j0 : vp_in (nI (4 * p.1.2.1 + 0)) 24 ∧ (nI (4 * p.1.2.1 + 0)).toNatClampNeg = 4 * p.1.2.1 + 0 := ⟨vp_in_nI (by omega) (by omega), nI_clamp (by omega)⟩
      have j1 : vp_in (nI (4 * p.1.2.1 + 1)) 24 ∧ (nI (4 * p.1.2.1 + 1)).toNatClampNeg = 4 * p.1.2.1 + 1 := ⟨vp_in_nI (by omega) (by omega), nI_clamp (by omega)⟩
      have j2 : vp_in (nI (4 * p.1.2.1 + 2)) 24 ∧ (nI (4 * p.1.2.1 + 2)).toNatClampNeg = 4 * p.1.2.1 + 2 := ⟨vp_in_nI (by omega) (by omega), nI_clamp (by omega)⟩
      have j3 : vp_in (nI (4 * p.1.2.1 + 3)) 24 ∧ (nI (4 * p.1.2.1 + 3)).toNatClampNeg = 4 * p.1.2.1 + 3 := ⟨vp_in_nI (by omega) (by omega), nI_clamp (by omega)⟩
      have n1 : (0 : Int32) + 1 = 1 := by decide
      have n2 : (1 : Int32) + 1 = 2 := by decide
      have n3 : (2 : Int32) + 1 = 3 := by decide
      have n4 : (3 : Int32) + 1 = 4 := by decide
      have l0 : ¬ (4 : Int32) ≤ 0 := by decide
      have l1' : ¬ (4 : Int32) ≤ 1 := by decide
      have l2' : ¬ (4 : Int32) ≤ 2 := by decide
      have l3' : ¬ (4 : Int32) ≤ 3 := by decide
      have l4' : (4 : Int32) ≤ 4 := by decide
      simp only [E_X12_crane_0, E_X12_crane_1, E_X12_crane_2, E_X12_crane_3, E_X12_crane_5, E_X12_crane_8, E_X12_crane_11, E_X12_crane_12, E_X12_crane_13, E_X12_crane_14, E_X12_crane_15, E_X12_crane_16, E_X12_crane_18, E_X12_crane_21, E_X12_crane_24, E_X12_crane_26, E_X12_crane_27, E_X12_crane_28, E_X12_crane_31, E_X12_crane_33, E_X12_crane_36, E_X12_crane_38, E_X12_crane_39, E_X12_crane_40, E_X12_crane_43, E_X12_crane_44, E_X12_crane_47, E_X12_crane_48, E_X12_crane_49, E_X12_crane_50, E_X12_crane_53, E_X12_crane_54, E_X12_crane_57, E_X12_crane_58, E_X12_crane_59, E_X12_crane_60, E_X12_crane_63, E_X12_crane_64, E_X12_crane_67, E_X12_crane_68, E_X12_crane_69, E_X12_crane_70, E_X12_crane_71, E_X12_crane_72, E_X12_crane_73, E_X12_crane_76, E_X12_crane_77, E_X12_crane_80, E_X12_crane_81, E_X12_crane_82, E_X12_crane_85, E_X12_crane_86, E_X12_crane_87, E_X12_crane_88, E_X12_crane_89, E_X12_crane_90, E_X12_crane_93, E_X12_crane_96, E_X12_crane_97, E_X12_crane_98, E_X12_crane_101, E_X12_crane_102, E_X12_crane_103, E_X12_crane_106, E_X12_crane_107, E_X12_crane_110, E_X12_crane_111, E_X12_crane_112, rk_137, rc_137, rg_137_0, rg_137_4, rg_137_5, rg_137_6, rg_137_7, rp_137_0, ra_139, rs_139, ra_140, rs_140, ra_141, rs_141, ra_142, rs_142, i1, i2, m41, n6, hs1, hs2, e4, r0, r1, r2, r3, j0.1, j0.2, j1.1, j1.2, j2.1, j2.2, j3.1, j3.2, n1, n2, n3, n4, l0, l1', l2', l3', l4', hin, b1, b2, gb_1, g1_0, gsi_1, Nat.reduceEqDiff, false_and, and_self, List.map_nil, List.map_cons, List.sum_cons, List.sum_nil, gcat_i, gcat_r, gcat_l, Nat.reduceAdd, Nat.reduceLeDiff, Nat.zero_le, Option.toList, List.cons_append, List.nil_append, gnk_i, gnk_r, gnk_n, gi_1, Nat.reduceLT, if_true, if_false]
      have hf := kCu_f h.2.1.1 h.1.2.2.1
      refine ⟨_, rfl, (by first | exact trivial | rfl), ⟨_, rfl⟩, gI_Y (p' := gA_addC p (nI k) y) h (gAg_si (gAg_si (gAg_si (gAg_si (gAg_si (gAg_si (gAg_si (gAg_si (pY_F hF) (by unfold pY; omega)) (by unfold pY; omega)) (by unfold pY; omega)) (by unfold pY; omega)) (by unfold pY; omega)) (by unfold pY; omega)) (by unfold pY; omega)) (by unfold pY; omega)) (Nat.le_refl _) (gA_all_addC h.2.1.2.1 h6' (by omega)) (gR_cg hR1 (by show p.1.2.1 + 1 ≤ 6; omega) rfl (fun b j q => by rw [gsi_1, if_neg (fun e => by omega), gsi_1, if_neg (fun e => by omega), gsi_1, if_neg (fun e => by omega), gsi_1, if_neg (fun e => by omega), gsi_1, if_neg (fun e => by omega), gsi_1, if_neg (fun e => by omega), gsi_1, if_neg (fun e => by omega), gsi_1, if_neg (fun e => by omega)])) (mY_addC hmY h6' ?_ ?_ ?_ ?_ (fun j hj => ?_) (fun b j a1 a2 a3 => by rw [gsi_1, if_neg (fun e => by omega), gsi_1, if_neg (fun e => by omega), gsi_1, if_neg (fun e => by omega), gsi_1, if_neg (fun e => by omega), gsi_1, if_neg (fun e => by omega), gsi_1, if_neg (fun e => by omega), gsi_1, if_neg (fun e => by omega), gsi_1, if_neg (fun e => by omega)]))⟩
      · rw [gsi_1, if_pos ⟨rfl, rfl⟩]
      · rw [gsi_1, if_neg (fun e => by omega), gsi_1, if_neg (fun e => by omega), gsi_1, if_neg (fun e => by omega), gsi_1, if_neg (fun e => by omega), gsi_1, if_neg (fun e => by omega), gsi_1, if_neg (fun e => by omega), gsi_1, if_neg (fun e => by omega), gsi_1, if_pos ⟨rfl, rfl⟩]
      · rw [gsi_1, if_neg (fun e => by omega), gsi_1, if_neg (fun e => by omega), gsi_1, if_neg (fun e => by omega), gsi_1, if_neg (fun e => by omega), gsi_1, if_neg (fun e => by omega), gsi_1, if_neg (fun e => by omega), gsi_1, if_pos ⟨rfl, rfl⟩]
      · rw [gsi_1, if_neg (fun e => by omega), gsi_1, if_neg (fun e => by omega), gsi_1, if_neg (fun e => by omega), gsi_1, if_neg (fun e => by omega), gsi_1, if_neg (fun e => by omega), gsi_1, if_pos ⟨rfl, rfl⟩]
      · have c : j = 0 ∨ j = 1 ∨ j = 2 ∨ j = 3 := by omega
        rcases c with rfl | rfl | rfl | rfl
        · rw [gsi_1, if_neg (fun e => by omega), gsi_1, if_neg (fun e => by omega), gsi_1, if_neg (fun e => by omega), gsi_1, if_neg (fun e => by omega), gsi_1, if_pos ⟨rfl, rfl⟩]
        · rw [gsi_1, if_neg (fun e => by omega), gsi_1, if_neg (fun e => by omega), gsi_1, if_neg (fun e => by omega), gsi_1, if_pos ⟨rfl, rfl⟩]
        · rw [gsi_1, if_neg (fun e => by omega), gsi_1, if_neg (fun e => by omega), gsi_1, if_pos ⟨rfl, rfl⟩]
        · rw [gsi_1, if_neg (fun e => by omega), gsi_1, if_pos ⟨rfl, rfl⟩]
end
