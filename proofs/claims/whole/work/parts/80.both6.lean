/-! both sides: looked, count, feed, trace, taken -/
theorem fa_byte : ∀ n, n < 128 → (nI n).toInt8.toInt32 = nI n ∧ vp_nar .byte (nI n) = nI n := by decide +kernel
section
variable {s : gm_S} {k j : Nat}
theorem kk_ok (hk : k < 7) (hj : j < 4) : gm_gok (gm_m s) [0, 2, 3, 4, 6, 7, 9] (65 + 2 * k) j = true := by
  match k, hk with
  | 0, _ => exact gm_m_gok (ci := 0) (by decide) rfl hj rfl
  | 1, _ => exact gm_m_gok (ci := 3) (by decide) rfl hj rfl
  | 2, _ => exact gm_m_gok (ci := 4) (by decide) rfl hj rfl
  | 3, _ => exact gm_m_gok (ci := 7) (by decide) rfl hj rfl
  | 4, _ => exact gm_m_gok (ci := 2) (by decide) rfl hj rfl
  | 5, _ => exact gm_m_gok (ci := 6) (by decide) rfl hj rfl
  | 6, _ => exact gm_m_gok (ci := 9) (by decide) rfl hj rfl
theorem kg_0 (hk : k < 7) : gm_gv (gm_m s) (65 + 2 * k) 0 = .int (s.1 (65 + 2 * k) 0) := by
  match k, hk with | 0, _ => rfl | 1, _ => rfl | 2, _ => rfl | 3, _ => rfl | 4, _ => rfl | 5, _ => rfl | 6, _ => rfl
theorem kg_1 (hk : k < 7) : gm_gv (gm_m s) (65 + 2 * k) 1 = .int (s.1 (65 + 2 * k) 1) := by
  match k, hk with | 0, _ => rfl | 1, _ => rfl | 2, _ => rfl | 3, _ => rfl | 4, _ => rfl | 5, _ => rfl | 6, _ => rfl
theorem kg_2 (hk : k < 7) : gm_gv (gm_m s) (65 + 2 * k) 2 = .int (s.1 (65 + 2 * k) 2) := by
  match k, hk with | 0, _ => rfl | 1, _ => rfl | 2, _ => rfl | 3, _ => rfl | 4, _ => rfl | 5, _ => rfl | 6, _ => rfl
theorem kg_3 (hk : k < 7) : gm_gv (gm_m s) (65 + 2 * k) 3 = .ref (66 + 2 * k) := by
  match k, hk with | 0, _ => rfl | 1, _ => rfl | 2, _ => rfl | 3, _ => rfl | 4, _ => rfl | 5, _ => rfl | 6, _ => rfl
theorem kg_sh (hk : k < 7) : 66 + 2 * k < 192 ∧ gm_sh (66 + 2 * k) = (0, 20, []) := by
  match k, hk with | 0, _ => exact ⟨by decide, rfl⟩ | 1, _ => exact ⟨by decide, rfl⟩ | 2, _ => exact ⟨by decide, rfl⟩ | 3, _ => exact ⟨by decide, rfl⟩ | 4, _ => exact ⟨by decide, rfl⟩ | 5, _ => exact ⟨by decide, rfl⟩ | 6, _ => exact ⟨by decide, rfl⟩
theorem kg_a {i : Int32} (hk : k < 7) : gm_ai (gm_m s) 0 (66 + 2 * k) i = vp_in i 20 := gm_m_ai (kg_sh hk).1 (kg_sh hk).2 (Or.inl rfl)
theorem kg_v (hk : k < 7) : gm_av (gm_m s) (66 + 2 * k) j = s.1 (66 + 2 * k) j := gm_m_av (kg_sh hk).1 (kg_sh hk).2 (Or.inl rfl)
theorem kg_s {x : Int32} (hk : k < 7) : gm_as (gm_m s) (66 + 2 * k) j x = gm_m (gm_si s (66 + 2 * k) j x) := gm_m_as (kg_sh hk).1 (kg_sh hk).2 (Or.inl rfl)
theorem kg_p {x : Int32} (hk : k < 7) (hj : j < 3) : gm_ps (gm_m s) (65 + 2 * k) j (.int x) = gm_m (gm_si s (65 + 2 * k) j x) := by
  match k, hk, j, hj with
  | 0, _, 0, _ | 0, _, 1, _ | 0, _, 2, _ => exact gm_m_psi (ci := 0) (by decide) rfl rfl
  | 1, _, 0, _ | 1, _, 1, _ | 1, _, 2, _ => exact gm_m_psi (ci := 3) (by decide) rfl rfl
  | 2, _, 0, _ | 2, _, 1, _ | 2, _, 2, _ => exact gm_m_psi (ci := 4) (by decide) rfl rfl
  | 3, _, 0, _ | 3, _, 1, _ | 3, _, 2, _ => exact gm_m_psi (ci := 7) (by decide) rfl rfl
  | 4, _, 0, _ | 4, _, 1, _ | 4, _, 2, _ => exact gm_m_psi (ci := 2) (by decide) rfl rfl
  | 5, _, 0, _ | 5, _, 1, _ | 5, _, 2, _ => exact gm_m_psi (ci := 6) (by decide) rfl rfl
  | 6, _, 0, _ | 6, _, 1, _ | 6, _, 2, _ => exact gm_m_psi (ci := 9) (by decide) rfl rfl
end
def pT (b j : Nat) : Prop := (b = 0 ∧ j = 11) ∨ b = 25 ∨ (b = 137 ∧ j = 15) ∨ b = 148
theorem va_rf_none : va_rf none = .null := Eq.trans rfl rfl
section
variable {w : Nat × (Nat → Int32)} {s : gm_S} {x y z : Int32}
def a_lkf (p : gA) (l : List (Nat × Nat)) (i : Nat) : Bool := match l[i]? with
  | some r => !decide (p.2.1 12 r.1 = nI r.2)
  | none => false
theorem c_looked_loop {f m d : Nat} {p : gA} {l : List (Nat × Nat)} {Q : Option Value → gc_M → Prop} (hR : gR s 83 f m p) (hk : gA_ok p) (hB : cBx 17 s l) (hl : gBk_ok p.1.2.2 l) : ∀ (n i : Nat) (l2 : Option Value), i + n = l.length → gc_X w (d + 1) 86 2 [some (.ref 0), some (.int (nI i)), l2] [] (gm_m s) Q = Q (some (.int (gp_i (gp_first (a_lkf p l) n i) (-5)))) (gm_m s) := by
  intro n
  have k8 := hk.2.1
  have h1 : s.1 17 3 = nI l.length := hB.1
  have h8 := hB.2.1
  induction n with
  | zero =>
    intro i l2 hi
    have e : l.length = i := by omega
    rw [e] at h1
    rw [E_X11_looked_2]
    simp only [E_X11_looked_0, E_X11_looked_1, E_X11_looked_3, E_X11_looked_4, E_X11_looked_7, E_X11_looked_10, E_X11_looked_13, E_X11_looked_14, E_X11_looked_17, E_X11_looked_20, E_X11_looked_21, E_X11_looked_22, E_X11_looked_23, E_X11_looked_24, E_X11_looked_27, E_X11_looked_28, E_X11_looked_31, E_X11_looked_34, E_X11_looked_35, E_X11_looked_38, E_X11_looked_41, E_X11_looked_42, E_X11_looked_43, E_X11_looked_44, E_X11_looked_47, E_X11_looked_50, E_X11_looked_51, E_X11_looked_52, E_X11_looked_55, E_X11_looked_56, E_X11_looked_57, E_X11_looked_60, E_X11_looked_63, E_X11_looked_65, rk_0, rk_17, rg_0_7, rg_17_3, h1, nI_le (Nat.le_refl i) (by omega : i < 2 ^ 31), gp_first, gp_i, gnk_i, gnk_r, gnk_n, gi_1, Nat.reduceLT, if_true, if_false]
  | succ n ih =>
    intro i l2 hi
    have hil : i < l.length := by omega
    have hg : l[i]? = some l[i] := List.getElem?_eq_getElem hil
    obtain ⟨w1, w2⟩ := hB.2.2 i _ hg
    have ht := (hl _ (List.getElem_mem hil)).1
    have j1 : vp_in (nI i) 8 := vp_in_nI (by omega) (by omega)
    have j2 : (nI i).toNatClampNeg = i := nI_clamp (by omega)
    have i3 : vp_in (nI l[i].1) 8 := vp_in_nI (by omega) (by omega)
    have i4 : (nI l[i].1).toNatClampNeg = l[i].1 := nI_clamp (by omega)
    have a12 : s.1 95 l[i].1 = p.2.1 12 l[i].1 := hR.2.2.2.2.2.2.2.1 12 _ (Or.inr (Or.inr (Or.inr ⟨by omega, by omega, ht⟩)))
    have hge : ¬ nI l.length ≤ nI i := nI_ge (by omega) (by omega)
    have hht := fun (Q : Option Value → gc_M → Prop) => gy_hasThing (w := w) (d := d) (x := nI l[i].1) (Q := Q) hR
    rw [gA_of_nI ht (by omega)] at hht
    have hi2 := fun l2 => ih (i + 1) l2 (by omega)
    rw [nI_succ] at hi2
    have ef : a_lkf p l i = !decide (p.2.1 12 l[i].1 = nI l[i].2) := by
      unfold a_lkf
      rw [hg]
    rw [E_X11_looked_2, gp_first, ef]
    by_cases hE : p.2.1 12 l[i].1 = nI l[i].2
    · rw [decide_eq_true hE, if_neg (by decide)]
      simp only [E_X11_looked_0, E_X11_looked_1, E_X11_looked_3, E_X11_looked_4, E_X11_looked_7, E_X11_looked_10, E_X11_looked_13, E_X11_looked_14, E_X11_looked_17, E_X11_looked_20, E_X11_looked_21, E_X11_looked_22, E_X11_looked_23, E_X11_looked_24, E_X11_looked_27, E_X11_looked_28, E_X11_looked_31, E_X11_looked_34, E_X11_looked_35, E_X11_looked_38, E_X11_looked_41, E_X11_looked_42, E_X11_looked_43, E_X11_looked_44, E_X11_looked_47, E_X11_looked_50, E_X11_looked_51, E_X11_looked_52, E_X11_looked_55, E_X11_looked_56, E_X11_looked_57, E_X11_looked_60, E_X11_looked_63, E_X11_looked_65, rk_0, rk_17, rk_83, rc_83, rg_0_0, rg_0_7, rg_17_0, rg_17_1, rg_17_3, rg_83_10, ra_18, rv_18, ra_19, rv_19, ra_95, rv_95, h1, hge, j1, j2, i3, i4, w1, w2, a12, hE, hht, gb_1, g1_0, hi2, List.map_nil, List.map_cons, List.sum_cons, List.sum_nil, gcat_i, gcat_r, gcat_l, Nat.reduceAdd, Nat.reduceLeDiff, Nat.zero_le, Option.toList, List.cons_append, List.nil_append, gnk_i, gnk_r, gnk_n, gi_1, Nat.reduceLT, if_true, if_false]
    · rw [decide_eq_false hE, if_pos (by decide), gp_i]
      simp only [E_X11_looked_0, E_X11_looked_1, E_X11_looked_3, E_X11_looked_4, E_X11_looked_7, E_X11_looked_10, E_X11_looked_13, E_X11_looked_14, E_X11_looked_17, E_X11_looked_20, E_X11_looked_21, E_X11_looked_22, E_X11_looked_23, E_X11_looked_24, E_X11_looked_27, E_X11_looked_28, E_X11_looked_31, E_X11_looked_34, E_X11_looked_35, E_X11_looked_38, E_X11_looked_41, E_X11_looked_42, E_X11_looked_43, E_X11_looked_44, E_X11_looked_47, E_X11_looked_50, E_X11_looked_51, E_X11_looked_52, E_X11_looked_55, E_X11_looked_56, E_X11_looked_57, E_X11_looked_60, E_X11_looked_63, E_X11_looked_65, rk_0, rk_17, rk_83, rc_83, rg_0_0, rg_0_7, rg_17_0, rg_17_1, rg_17_3, rg_83_10, ra_18, rv_18, ra_19, rv_19, ra_95, rv_95, h1, hge, j1, j2, i3, i4, w1, w2, a12, hE, hht, gb_1, g1_0, List.map_nil, List.map_cons, List.sum_cons, List.sum_nil, gcat_i, gcat_r, gcat_l, Nat.reduceAdd, Nat.reduceLeDiff, Nat.zero_le, Option.toList, List.cons_append, List.nil_append, gnk_i, gnk_r, gnk_n, gi_1, Nat.reduceLT, if_true, if_false]
theorem m_looked_loop {d : Nat} {p : gA} {l : List (Nat × Nat)} {Q : Option Value → gc_M → Prop} (hR : mR s p) (hk : gA_ok p) (hB : mPx 43 168 8 s l) (hl : gBk_ok p.1.2.2 l) : ∀ (n i : Nat), i + n = l.length → gc_X w (d + 1) 182 2 [some (.ref 137), some (.int (nI i))] [] (gm_m s) Q = Q (some (.int (gp_i (gp_first (a_lkf p l) n i) (-5)))) (gm_m s) := by
  intro n
  have k8 := hk.2.1
  have h1 : s.1 137 43 = nI l.length := hB.1
  have h8 := hB.2.1
  induction n with
  | zero =>
    intro i hi
    have e : l.length = i := by omega
    rw [e] at h1
    rw [E_X12_looked_2]
    simp only [E_X12_looked_0, E_X12_looked_1, E_X12_looked_3, E_X12_looked_4, E_X12_looked_7, E_X12_looked_10, E_X12_looked_11, E_X12_looked_14, E_X12_looked_15, E_X12_looked_18, E_X12_looked_19, E_X12_looked_20, E_X12_looked_21, E_X12_looked_22, E_X12_looked_25, E_X12_looked_26, E_X12_looked_27, E_X12_looked_30, E_X12_looked_31, E_X12_looked_32, E_X12_looked_35, E_X12_looked_38, E_X12_looked_40, rk_137, rg_137_43, h1, nI_le (Nat.le_refl i) (by omega : i < 2 ^ 31), gp_first, gp_i, gnk_i, gnk_r, gnk_n, gi_1, Nat.reduceLT, if_true, if_false]
  | succ n ih =>
    intro i hi
    have hil : i < l.length := by omega
    have hg : l[i]? = some l[i] := List.getElem?_eq_getElem hil
    obtain ⟨w1, w2⟩ := hB.2.2 i _ hg
    have w2 : s.1 169 i = nI l[i].2 := w2
    have ht := (hl _ (List.getElem_mem hil)).1
    have j1 : vp_in (nI i) 8 := vp_in_nI (by omega) (by omega)
    have j2 : (nI i).toNatClampNeg = i := nI_clamp (by omega)
    have i3 : vp_in (nI l[i].1) 8 := vp_in_nI (by omega) (by omega)
    have i4 : (nI l[i].1).toNatClampNeg = l[i].1 := nI_clamp (by omega)
    obtain ⟨a12, -⟩ := hR.2.2.2.2.2 l[i].1 ht
    have hge : ¬ nI l.length ≤ nI i := nI_ge (by omega) (by omega)
    have hi2 := ih (i + 1) (by omega)
    rw [nI_succ] at hi2
    have ef : a_lkf p l i = !decide (p.2.1 12 l[i].1 = nI l[i].2) := by
      unfold a_lkf
      rw [hg]
    rw [E_X12_looked_2, gp_first, ef]
    by_cases hE : p.2.1 12 l[i].1 = nI l[i].2
    · rw [decide_eq_true hE, if_neg (by decide)]
      simp only [E_X12_looked_0, E_X12_looked_1, E_X12_looked_3, E_X12_looked_4, E_X12_looked_7, E_X12_looked_10, E_X12_looked_11, E_X12_looked_14, E_X12_looked_15, E_X12_looked_18, E_X12_looked_19, E_X12_looked_20, E_X12_looked_21, E_X12_looked_22, E_X12_looked_25, E_X12_looked_26, E_X12_looked_27, E_X12_looked_30, E_X12_looked_31, E_X12_looked_32, E_X12_looked_35, E_X12_looked_38, E_X12_looked_40, rk_137, rg_137_8, rg_137_43, rg_137_46, rg_137_47, ra_143, rv_143, ra_168, rv_168, ra_169, rv_169, h1, hge, j1, j2, i3, i4, w1, w2, a12, hE, hi2, gnk_i, gnk_r, gnk_n, gi_1, Nat.reduceLT, if_true, if_false]
    · rw [decide_eq_false hE, if_pos (by decide), gp_i]
      simp only [E_X12_looked_0, E_X12_looked_1, E_X12_looked_3, E_X12_looked_4, E_X12_looked_7, E_X12_looked_10, E_X12_looked_11, E_X12_looked_14, E_X12_looked_15, E_X12_looked_18, E_X12_looked_19, E_X12_looked_20, E_X12_looked_21, E_X12_looked_22, E_X12_looked_25, E_X12_looked_26, E_X12_looked_27, E_X12_looked_30, E_X12_looked_31, E_X12_looked_32, E_X12_looked_35, E_X12_looked_38, E_X12_looked_40, rk_137, rg_137_8, rg_137_43, rg_137_46, rg_137_47, ra_143, rv_143, ra_168, rv_168, ra_169, rv_169, h1, hge, j1, j2, i3, i4, w1, w2, a12, hE, gnk_i, gnk_r, gnk_n, gi_1, Nat.reduceLT, if_true, if_false]
theorem i_looked (h : gInv s) : gBoth w 86 182 [some (.ref 0), none, none] [some (.ref 137), none] s := by
  have h0 := h
  obtain ⟨φ, p, cu, cs, f, l1, l2, l3, h⟩ := gInv_I h
  have hL := h.2.2.1.2.2
  refine i_no h0 (gp_i (gp_first (a_lkf p l3) l3.length 0) (-5)) (fun Q => ?_) (fun Q => ?_)
  · have e := c_looked_loop (w := w) (d := 39) (Q := Q) (gI_R h) (gI_ok h) hL.1 hL.2.2 l3.length 0 none (by omega)
    rw [nI_0] at e
    simp only [E_X11_looked_0, E_X11_looked_1, gnk_i, gnk_r, gnk_n, gi_1, Nat.reduceLT, if_true, if_false]
    exact e
  · have e := m_looked_loop (w := w) (d := 39) (Q := Q) (gI_mR h) (gI_ok h) hL.2.1 hL.2.2 l3.length 0 (by omega)
    rw [nI_0] at e
    simp only [E_X12_looked_0, E_X12_looked_1, gnk_i, gnk_r, gnk_n, gi_1, Nat.reduceLT, if_true, if_false]
    exact e
theorem i_count (h : gInv s) : gBoth w 93 197 [some (.ref 0), some (.int x)] [some (.ref 137), some (.int x)] s := by
  have h0 := h
  obtain ⟨φ, p, cu, cs, f, l1, l2, l3, h⟩ := gInv_I h
  have hR := gI_R h
  have hm := gI_mR h
  obtain ⟨n, b, t1, t2, -, -⟩ := h.2.2.2.2.1
  obtain ⟨o, tr, ha, hb, -, -⟩ := h.2.2.2.2.2.1
  have c4 : s.1 83 4 = nI p.1.2.1 := hR.2.2.2.2.2.1
  have c9 : s.1 83 9 = nI p.1.2.2 := hR.2.2.2.2.2.2.1
  have m0 := hm.1
  have m1 := hm.2.1
  have f1 := h.1.1
  have f2 := h.1.2.1
  have s1 : s.1 1 3 = nI l1.length := h.2.2.1.1.1.1
  have s2 : s.1 137 38 = nI l1.length := h.2.2.1.1.2.1.1
  have p1 : s.1 9 3 = nI l2.length := h.2.2.1.2.1.1.1
  have p2 : s.1 137 42 = nI l2.length := h.2.2.1.2.1.2.1.1
  have b1 : s.1 17 3 = nI l3.length := h.2.2.1.2.2.1.1
  have b2 : s.1 137 43 = nI l3.length := h.2.2.1.2.2.2.1.1
  by_cases x0 : x = 0
  · refine i_no h0 (nI p.1.2.1) (fun Q => ?_) (fun Q => ?_) <;> simp (decide := true) only [E_X11_count_0, E_X11_count_1, E_X11_count_48, E_X11_count_49, E_X11_count_52, E_X11_count_55, E_X11_count_56, E_X11_count_57, E_X11_count_60, E_X11_count_63, E_X11_count_64, E_X11_count_65, E_X11_count_68, E_X11_count_69, E_X11_count_70, E_X11_count_73, E_X11_count_76, E_X11_count_77, E_X11_count_78, E_X11_count_81, E_X11_count_84, E_X11_count_85, E_X11_count_86, E_X11_count_89, E_X11_count_92, E_X11_count_93, E_X11_count_94, E_X11_count_97, E_X11_count_98, E_X11_count_99, E_X11_count_102n, E_X11_count_102r, E_X11_count_105, E_X11_count_106, E_X11_count_109, E_X11_count_110, E_X11_count_113, E_X11_count_116, E_X11_count_117, E_X11_count_119, E_X12_count_0, E_X12_count_1, E_X12_count_48, E_X12_count_49, E_X12_count_52, E_X12_count_53, E_X12_count_54, E_X12_count_57, E_X12_count_58, E_X12_count_59, E_X12_count_62, E_X12_count_63, E_X12_count_64, E_X12_count_67, E_X12_count_68, E_X12_count_69, E_X12_count_72, E_X12_count_73, E_X12_count_74, E_X12_count_77, E_X12_count_78, E_X12_count_79, E_X12_count_82, E_X12_count_83, E_X12_count_84, E_X12_count_87, E_X12_count_88, E_X12_count_90, rk_0, rk_83, rk_137, rg_0_0, rg_83_4, rg_137_0, c4, m0, x0, gnk_i, gnk_r, gnk_n, gi_1, Nat.reduceLT, if_true, if_false]
  by_cases x1 : x = 1
  · refine i_no h0 (nI p.1.2.2) (fun Q => ?_) (fun Q => ?_) <;> simp (decide := true) only [E_X11_count_0, E_X11_count_1, E_X11_count_48, E_X11_count_49, E_X11_count_52, E_X11_count_55, E_X11_count_56, E_X11_count_57, E_X11_count_60, E_X11_count_63, E_X11_count_64, E_X11_count_65, E_X11_count_68, E_X11_count_69, E_X11_count_70, E_X11_count_73, E_X11_count_76, E_X11_count_77, E_X11_count_78, E_X11_count_81, E_X11_count_84, E_X11_count_85, E_X11_count_86, E_X11_count_89, E_X11_count_92, E_X11_count_93, E_X11_count_94, E_X11_count_97, E_X11_count_98, E_X11_count_99, E_X11_count_102n, E_X11_count_102r, E_X11_count_105, E_X11_count_106, E_X11_count_109, E_X11_count_110, E_X11_count_113, E_X11_count_116, E_X11_count_117, E_X11_count_119, E_X12_count_0, E_X12_count_1, E_X12_count_48, E_X12_count_49, E_X12_count_52, E_X12_count_53, E_X12_count_54, E_X12_count_57, E_X12_count_58, E_X12_count_59, E_X12_count_62, E_X12_count_63, E_X12_count_64, E_X12_count_67, E_X12_count_68, E_X12_count_69, E_X12_count_72, E_X12_count_73, E_X12_count_74, E_X12_count_77, E_X12_count_78, E_X12_count_79, E_X12_count_82, E_X12_count_83, E_X12_count_84, E_X12_count_87, E_X12_count_88, E_X12_count_90, rk_0, rk_83, rk_137, rg_0_0, rg_83_9, rg_137_1, c9, m1, x1, gnk_i, gnk_r, gnk_n, gi_1, Nat.reduceLT, if_true, if_false]
  by_cases x2 : x = 2
  · refine i_no h0 (nI φ.length) (fun Q => ?_) (fun Q => ?_) <;> simp (decide := true) only [E_X11_count_0, E_X11_count_1, E_X11_count_48, E_X11_count_49, E_X11_count_52, E_X11_count_55, E_X11_count_56, E_X11_count_57, E_X11_count_60, E_X11_count_63, E_X11_count_64, E_X11_count_65, E_X11_count_68, E_X11_count_69, E_X11_count_70, E_X11_count_73, E_X11_count_76, E_X11_count_77, E_X11_count_78, E_X11_count_81, E_X11_count_84, E_X11_count_85, E_X11_count_86, E_X11_count_89, E_X11_count_92, E_X11_count_93, E_X11_count_94, E_X11_count_97, E_X11_count_98, E_X11_count_99, E_X11_count_102n, E_X11_count_102r, E_X11_count_105, E_X11_count_106, E_X11_count_109, E_X11_count_110, E_X11_count_113, E_X11_count_116, E_X11_count_117, E_X11_count_119, E_X12_count_0, E_X12_count_1, E_X12_count_48, E_X12_count_49, E_X12_count_52, E_X12_count_53, E_X12_count_54, E_X12_count_57, E_X12_count_58, E_X12_count_59, E_X12_count_62, E_X12_count_63, E_X12_count_64, E_X12_count_67, E_X12_count_68, E_X12_count_69, E_X12_count_72, E_X12_count_73, E_X12_count_74, E_X12_count_77, E_X12_count_78, E_X12_count_79, E_X12_count_82, E_X12_count_83, E_X12_count_84, E_X12_count_87, E_X12_count_88, E_X12_count_90, rk_0, rk_137, rg_0_13, rg_137_13, f1, f2, x2, gnk_i, gnk_r, gnk_n, gi_1, Nat.reduceLT, if_true, if_false]
  by_cases x3 : x = 3
  · refine i_no h0 (nI l1.length) (fun Q => ?_) (fun Q => ?_) <;> simp (decide := true) only [E_X11_count_0, E_X11_count_1, E_X11_count_48, E_X11_count_49, E_X11_count_52, E_X11_count_55, E_X11_count_56, E_X11_count_57, E_X11_count_60, E_X11_count_63, E_X11_count_64, E_X11_count_65, E_X11_count_68, E_X11_count_69, E_X11_count_70, E_X11_count_73, E_X11_count_76, E_X11_count_77, E_X11_count_78, E_X11_count_81, E_X11_count_84, E_X11_count_85, E_X11_count_86, E_X11_count_89, E_X11_count_92, E_X11_count_93, E_X11_count_94, E_X11_count_97, E_X11_count_98, E_X11_count_99, E_X11_count_102n, E_X11_count_102r, E_X11_count_105, E_X11_count_106, E_X11_count_109, E_X11_count_110, E_X11_count_113, E_X11_count_116, E_X11_count_117, E_X11_count_119, E_X12_count_0, E_X12_count_1, E_X12_count_48, E_X12_count_49, E_X12_count_52, E_X12_count_53, E_X12_count_54, E_X12_count_57, E_X12_count_58, E_X12_count_59, E_X12_count_62, E_X12_count_63, E_X12_count_64, E_X12_count_67, E_X12_count_68, E_X12_count_69, E_X12_count_72, E_X12_count_73, E_X12_count_74, E_X12_count_77, E_X12_count_78, E_X12_count_79, E_X12_count_82, E_X12_count_83, E_X12_count_84, E_X12_count_87, E_X12_count_88, E_X12_count_90, rk_0, rk_1, rk_137, rg_0_3, rg_1_3, rg_137_38, s1, s2, x3, gnk_i, gnk_r, gnk_n, gi_1, Nat.reduceLT, if_true, if_false]
  by_cases x4 : x = 4
  · refine i_no h0 (nI l2.length) (fun Q => ?_) (fun Q => ?_) <;> simp (decide := true) only [E_X11_count_0, E_X11_count_1, E_X11_count_48, E_X11_count_49, E_X11_count_52, E_X11_count_55, E_X11_count_56, E_X11_count_57, E_X11_count_60, E_X11_count_63, E_X11_count_64, E_X11_count_65, E_X11_count_68, E_X11_count_69, E_X11_count_70, E_X11_count_73, E_X11_count_76, E_X11_count_77, E_X11_count_78, E_X11_count_81, E_X11_count_84, E_X11_count_85, E_X11_count_86, E_X11_count_89, E_X11_count_92, E_X11_count_93, E_X11_count_94, E_X11_count_97, E_X11_count_98, E_X11_count_99, E_X11_count_102n, E_X11_count_102r, E_X11_count_105, E_X11_count_106, E_X11_count_109, E_X11_count_110, E_X11_count_113, E_X11_count_116, E_X11_count_117, E_X11_count_119, E_X12_count_0, E_X12_count_1, E_X12_count_48, E_X12_count_49, E_X12_count_52, E_X12_count_53, E_X12_count_54, E_X12_count_57, E_X12_count_58, E_X12_count_59, E_X12_count_62, E_X12_count_63, E_X12_count_64, E_X12_count_67, E_X12_count_68, E_X12_count_69, E_X12_count_72, E_X12_count_73, E_X12_count_74, E_X12_count_77, E_X12_count_78, E_X12_count_79, E_X12_count_82, E_X12_count_83, E_X12_count_84, E_X12_count_87, E_X12_count_88, E_X12_count_90, rk_0, rk_9, rk_137, rg_0_5, rg_9_3, rg_137_42, p1, p2, x4, gnk_i, gnk_r, gnk_n, gi_1, Nat.reduceLT, if_true, if_false]
  by_cases x5 : x = 5
  · refine i_no h0 (nI l3.length) (fun Q => ?_) (fun Q => ?_) <;> simp (decide := true) only [E_X11_count_0, E_X11_count_1, E_X11_count_48, E_X11_count_49, E_X11_count_52, E_X11_count_55, E_X11_count_56, E_X11_count_57, E_X11_count_60, E_X11_count_63, E_X11_count_64, E_X11_count_65, E_X11_count_68, E_X11_count_69, E_X11_count_70, E_X11_count_73, E_X11_count_76, E_X11_count_77, E_X11_count_78, E_X11_count_81, E_X11_count_84, E_X11_count_85, E_X11_count_86, E_X11_count_89, E_X11_count_92, E_X11_count_93, E_X11_count_94, E_X11_count_97, E_X11_count_98, E_X11_count_99, E_X11_count_102n, E_X11_count_102r, E_X11_count_105, E_X11_count_106, E_X11_count_109, E_X11_count_110, E_X11_count_113, E_X11_count_116, E_X11_count_117, E_X11_count_119, E_X12_count_0, E_X12_count_1, E_X12_count_48, E_X12_count_49, E_X12_count_52, E_X12_count_53, E_X12_count_54, E_X12_count_57, E_X12_count_58, E_X12_count_59, E_X12_count_62, E_X12_count_63, E_X12_count_64, E_X12_count_67, E_X12_count_68, E_X12_count_69, E_X12_count_72, E_X12_count_73, E_X12_count_74, E_X12_count_77, E_X12_count_78, E_X12_count_79, E_X12_count_82, E_X12_count_83, E_X12_count_84, E_X12_count_87, E_X12_count_88, E_X12_count_90, rk_0, rk_17, rk_137, rg_0_7, rg_17_3, rg_137_43, b1, b2, x5, gnk_i, gnk_r, gnk_n, gi_1, Nat.reduceLT, if_true, if_false]
  by_cases x6 : x = 6
  · refine i_no h0 (nI n) (fun Q => ?_) (fun Q => ?_) <;> simp (decide := true) only [E_X11_count_0, E_X11_count_1, E_X11_count_48, E_X11_count_49, E_X11_count_52, E_X11_count_55, E_X11_count_56, E_X11_count_57, E_X11_count_60, E_X11_count_63, E_X11_count_64, E_X11_count_65, E_X11_count_68, E_X11_count_69, E_X11_count_70, E_X11_count_73, E_X11_count_76, E_X11_count_77, E_X11_count_78, E_X11_count_81, E_X11_count_84, E_X11_count_85, E_X11_count_86, E_X11_count_89, E_X11_count_92, E_X11_count_93, E_X11_count_94, E_X11_count_97, E_X11_count_98, E_X11_count_99, E_X11_count_102n, E_X11_count_102r, E_X11_count_105, E_X11_count_106, E_X11_count_109, E_X11_count_110, E_X11_count_113, E_X11_count_116, E_X11_count_117, E_X11_count_119, E_X12_count_0, E_X12_count_1, E_X12_count_48, E_X12_count_49, E_X12_count_52, E_X12_count_53, E_X12_count_54, E_X12_count_57, E_X12_count_58, E_X12_count_59, E_X12_count_62, E_X12_count_63, E_X12_count_64, E_X12_count_67, E_X12_count_68, E_X12_count_69, E_X12_count_72, E_X12_count_73, E_X12_count_74, E_X12_count_77, E_X12_count_78, E_X12_count_79, E_X12_count_82, E_X12_count_83, E_X12_count_84, E_X12_count_87, E_X12_count_88, E_X12_count_90, rk_0, rk_137, rg_0_11, rg_137_15, t1, t2, x6, gnk_i, gnk_r, gnk_n, gi_1, Nat.reduceLT, if_true, if_false]
  by_cases x7 : x = 7
  · cases o with
    | none =>
      obtain ⟨a1, a2⟩ := ha
      subst a2
      have hb' : s.1 137 73 = 0 := hb
      refine i_no h0 0 (fun Q => ?_) (fun Q => ?_) <;> simp (decide := true) only [E_X11_count_0, E_X11_count_1, E_X11_count_48, E_X11_count_49, E_X11_count_52, E_X11_count_55, E_X11_count_56, E_X11_count_57, E_X11_count_60, E_X11_count_63, E_X11_count_64, E_X11_count_65, E_X11_count_68, E_X11_count_69, E_X11_count_70, E_X11_count_73, E_X11_count_76, E_X11_count_77, E_X11_count_78, E_X11_count_81, E_X11_count_84, E_X11_count_85, E_X11_count_86, E_X11_count_89, E_X11_count_92, E_X11_count_93, E_X11_count_94, E_X11_count_97, E_X11_count_98, E_X11_count_99, E_X11_count_102n, E_X11_count_102r, E_X11_count_105, E_X11_count_106, E_X11_count_109, E_X11_count_110, E_X11_count_113, E_X11_count_116, E_X11_count_117, E_X11_count_119, E_X12_count_0, E_X12_count_1, E_X12_count_48, E_X12_count_49, E_X12_count_52, E_X12_count_53, E_X12_count_54, E_X12_count_57, E_X12_count_58, E_X12_count_59, E_X12_count_62, E_X12_count_63, E_X12_count_64, E_X12_count_67, E_X12_count_68, E_X12_count_69, E_X12_count_72, E_X12_count_73, E_X12_count_74, E_X12_count_77, E_X12_count_78, E_X12_count_79, E_X12_count_82, E_X12_count_83, E_X12_count_84, E_X12_count_87, E_X12_count_88, E_X12_count_90, rk_0, rk_137, rg_0_15, rg_137_73, a1, va_rf_none, hb', x7, gnk_i, gnk_r, gnk_n, gi_1, Nat.reduceLT, if_true, if_false]
    | some k =>
      obtain ⟨a1, a2, a3, -⟩ := ha
      have hlt : 65 + 2 * k < 1000000 := by omega
      refine i_no h0 (nI tr.length) (fun Q => ?_) (fun Q => ?_) <;> simp (decide := true) only [E_X11_count_0, E_X11_count_1, E_X11_count_48, E_X11_count_49, E_X11_count_52, E_X11_count_55, E_X11_count_56, E_X11_count_57, E_X11_count_60, E_X11_count_63, E_X11_count_64, E_X11_count_65, E_X11_count_68, E_X11_count_69, E_X11_count_70, E_X11_count_73, E_X11_count_76, E_X11_count_77, E_X11_count_78, E_X11_count_81, E_X11_count_84, E_X11_count_85, E_X11_count_86, E_X11_count_89, E_X11_count_92, E_X11_count_93, E_X11_count_94, E_X11_count_97, E_X11_count_98, E_X11_count_99, E_X11_count_102n, E_X11_count_102r, E_X11_count_105, E_X11_count_106, E_X11_count_109, E_X11_count_110, E_X11_count_113, E_X11_count_116, E_X11_count_117, E_X11_count_119, E_X12_count_0, E_X12_count_1, E_X12_count_48, E_X12_count_49, E_X12_count_52, E_X12_count_53, E_X12_count_54, E_X12_count_57, E_X12_count_58, E_X12_count_59, E_X12_count_62, E_X12_count_63, E_X12_count_64, E_X12_count_67, E_X12_count_68, E_X12_count_69, E_X12_count_72, E_X12_count_73, E_X12_count_74, E_X12_count_77, E_X12_count_78, E_X12_count_79, E_X12_count_82, E_X12_count_83, E_X12_count_84, E_X12_count_87, E_X12_count_88, E_X12_count_90, rk_0, rk_137, rg_0_15, rg_137_73, a1, va_rf_some, hlt, kk_ok a2, kg_2 a2, a3, hb, x7, gnk_i, gnk_r, gnk_n, gi_1, Nat.reduceLT, if_true, if_false]
  refine i_no h0 (-2) (fun Q => ?_) (fun Q => ?_) <;> simp (decide := true) only [E_X11_count_0, E_X11_count_1, E_X11_count_48, E_X11_count_49, E_X11_count_52, E_X11_count_55, E_X11_count_56, E_X11_count_57, E_X11_count_60, E_X11_count_63, E_X11_count_64, E_X11_count_65, E_X11_count_68, E_X11_count_69, E_X11_count_70, E_X11_count_73, E_X11_count_76, E_X11_count_77, E_X11_count_78, E_X11_count_81, E_X11_count_84, E_X11_count_85, E_X11_count_86, E_X11_count_89, E_X11_count_92, E_X11_count_93, E_X11_count_94, E_X11_count_97, E_X11_count_98, E_X11_count_99, E_X11_count_102n, E_X11_count_102r, E_X11_count_105, E_X11_count_106, E_X11_count_109, E_X11_count_110, E_X11_count_113, E_X11_count_116, E_X11_count_117, E_X11_count_119, E_X12_count_0, E_X12_count_1, E_X12_count_48, E_X12_count_49, E_X12_count_52, E_X12_count_53, E_X12_count_54, E_X12_count_57, E_X12_count_58, E_X12_count_59, E_X12_count_62, E_X12_count_63, E_X12_count_64, E_X12_count_67, E_X12_count_68, E_X12_count_69, E_X12_count_72, E_X12_count_73, E_X12_count_74, E_X12_count_77, E_X12_count_78, E_X12_count_79, E_X12_count_82, E_X12_count_83, E_X12_count_84, E_X12_count_87, E_X12_count_88, E_X12_count_90, x0, x1, x2, x3, x4, x5, x6, x7, gnk_i, gnk_r, gnk_n, gi_1, Nat.reduceLT, if_true, if_false]
theorem i_feed (h : gInv s) : gBoth w 73 123 [some (.ref 0), some (.int x)] [some (.ref 137), some (.int x)] s := by
  have h0 := h
  obtain ⟨φ, p, cu, cs, f, l1, l2, l3, h⟩ := gInv_I h
  obtain ⟨n, b, t1, t2, t3, t4⟩ := h.2.2.2.2.1
  have hw := fun (a b : Int32) (Q : Option Value → gc_M → Prop) => c_within (w := w) (d := 39) (s := s) (x := a) (y := b) (Q := Q)
  have hin := fun (a b c : Int32) (s : gm_S) (Q : Option Value → gc_M → Prop) => m_in (w := w) (d := 39) (s := s) (x := a) (y := b) (z := c) (Q := Q)
  cases b1 : gB_in x 0 127 with
  | false =>
    refine i_no h0 (-2) (fun Q => ?_) (fun Q => ?_)
    · simp only [E_X11_feed_0, E_X11_feed_1, E_X11_feed_3, E_X11_feed_6, E_X11_feed_9, E_X11_feed_11, E_X11_feed_12, E_X11_feed_13, E_X11_feed_16, E_X11_feed_18, E_X11_feed_21, E_X11_feed_23, E_X11_feed_24, E_X11_feed_25, E_X11_feed_28, E_X11_feed_29, E_X11_feed_32, E_X11_feed_33, E_X11_feed_34, E_X11_feed_35, E_X11_feed_36, E_X11_feed_37, E_X11_feed_40, E_X11_feed_41, E_X11_feed_42, E_X11_feed_45, E_X11_feed_46, E_X11_feed_49, hw, b1, gb_0, List.map_nil, List.map_cons, List.sum_cons, List.sum_nil, gcat_i, gcat_r, gcat_l, Nat.reduceAdd, Nat.reduceLeDiff, Nat.zero_le, Option.toList, List.cons_append, List.nil_append, gnk_i, gnk_r, gnk_n, gi_1, Nat.reduceLT, if_true, if_false]
    · simp only [E_X12_feed_0, E_X12_feed_1, E_X12_feed_2, E_X12_feed_3, E_X12_feed_5, E_X12_feed_8, E_X12_feed_11, E_X12_feed_13, E_X12_feed_14, E_X12_feed_15, E_X12_feed_18, E_X12_feed_20, E_X12_feed_23, E_X12_feed_25, E_X12_feed_26, E_X12_feed_27, E_X12_feed_30, E_X12_feed_31, E_X12_feed_34, E_X12_feed_35, E_X12_feed_36, E_X12_feed_37, E_X12_feed_38, E_X12_feed_41, E_X12_feed_42, E_X12_feed_43, E_X12_feed_46, E_X12_feed_47, E_X12_feed_50, rc_137, hin, b1, gb_0, List.map_nil, List.map_cons, List.sum_cons, List.sum_nil, gcat_i, gcat_r, gcat_l, Nat.reduceAdd, Nat.reduceLeDiff, Nat.zero_le, Option.toList, List.cons_append, List.nil_append, gnk_i, gnk_r, gnk_n, gi_1, Nat.reduceLT, if_true, if_false]
  | true =>
    obtain ⟨v, hv, e1⟩ := gB_in_ex (k := 127) b1 (by decide)
    subst e1
    by_cases h1 : n = 100
    · subst h1
      have e8 : nI 100 = 100 := rfl
      have l8 : ¬ nI 100 < 100 := by decide
      refine i_no h0 (-4) (fun Q => ?_) (fun Q => ?_)
      · simp only [E_X11_feed_0, E_X11_feed_1, E_X11_feed_3, E_X11_feed_6, E_X11_feed_9, E_X11_feed_11, E_X11_feed_12, E_X11_feed_13, E_X11_feed_16, E_X11_feed_18, E_X11_feed_21, E_X11_feed_23, E_X11_feed_24, E_X11_feed_25, E_X11_feed_28, E_X11_feed_29, E_X11_feed_32, E_X11_feed_33, E_X11_feed_34, E_X11_feed_35, E_X11_feed_36, E_X11_feed_37, E_X11_feed_40, E_X11_feed_41, E_X11_feed_42, E_X11_feed_45, E_X11_feed_46, E_X11_feed_49, rk_0, rg_0_11, t1, l8, hw, b1, gb_1, g1_0, List.map_nil, List.map_cons, List.sum_cons, List.sum_nil, gcat_i, gcat_r, gcat_l, Nat.reduceAdd, Nat.reduceLeDiff, Nat.zero_le, Option.toList, List.cons_append, List.nil_append, gnk_i, gnk_r, gnk_n, gi_1, Nat.reduceLT, if_true, if_false]
      · simp only [E_X12_feed_0, E_X12_feed_1, E_X12_feed_2, E_X12_feed_3, E_X12_feed_5, E_X12_feed_8, E_X12_feed_11, E_X12_feed_13, E_X12_feed_14, E_X12_feed_15, E_X12_feed_18, E_X12_feed_20, E_X12_feed_23, E_X12_feed_25, E_X12_feed_26, E_X12_feed_27, E_X12_feed_30, E_X12_feed_31, E_X12_feed_34, E_X12_feed_35, E_X12_feed_36, E_X12_feed_37, E_X12_feed_38, E_X12_feed_41, E_X12_feed_42, E_X12_feed_43, E_X12_feed_46, E_X12_feed_47, E_X12_feed_50, rk_137, rc_137, rg_137_15, t2, e8, hin, b1, gb_1, g1_0, List.map_nil, List.map_cons, List.sum_cons, List.sum_nil, gcat_i, gcat_r, gcat_l, Nat.reduceAdd, Nat.reduceLeDiff, Nat.zero_le, Option.toList, List.cons_append, List.nil_append, gnk_i, gnk_r, gnk_n, gi_1, Nat.reduceLT, if_true, if_false]
    have l8 : nI n < 100 := nI_lt (b := 100) (by omega) (by omega)
    have n8 : ¬ nI n = 100 := fun e => h1 ((nI_eq (b := 100) (by omega) (by omega)).mp e)
    have i1 : vp_in (nI n) 100 := vp_in_nI (by omega) (by omega)
    have i2 : (nI n).toNatClampNeg = n := nI_clamp (by omega)
    have hs1 : nI n + 1 = nI (n + 1) := nI_1 _
    obtain ⟨y1, y2⟩ := fa_byte v (by omega)
    unfold gBoth
    simp only [E_X11_feed_0, E_X11_feed_1, E_X11_feed_3, E_X11_feed_6, E_X11_feed_9, E_X11_feed_11, E_X11_feed_12, E_X11_feed_13, E_X11_feed_16, E_X11_feed_18, E_X11_feed_21, E_X11_feed_23, E_X11_feed_24, E_X11_feed_25, E_X11_feed_28, E_X11_feed_29, E_X11_feed_32, E_X11_feed_33, E_X11_feed_34, E_X11_feed_35, E_X11_feed_36, E_X11_feed_37, E_X11_feed_40, E_X11_feed_41, E_X11_feed_42, E_X11_feed_45, E_X11_feed_46, E_X11_feed_49, rk_0, rg_0_10, rg_0_11, rp_0_11, ra_25, rs_25, i1, i2, t1, l8, hs1, y1, y2, hw, b1, gb_1, g1_0, gsi_1, Nat.reduceEqDiff, false_and, and_self, List.map_nil, List.map_cons, List.sum_cons, List.sum_nil, gcat_i, gcat_r, gcat_l, Nat.reduceAdd, Nat.reduceLeDiff, Nat.zero_le, Option.toList, List.cons_append, List.nil_append, gnk_i, gnk_r, gnk_n, gi_1, Nat.reduceLT, if_true, if_false]
    refine ⟨_, rfl, ?_⟩
    simp only [E_X12_feed_0, E_X12_feed_1, E_X12_feed_2, E_X12_feed_3, E_X12_feed_5, E_X12_feed_8, E_X12_feed_11, E_X12_feed_13, E_X12_feed_14, E_X12_feed_15, E_X12_feed_18, E_X12_feed_20, E_X12_feed_23, E_X12_feed_25, E_X12_feed_26, E_X12_feed_27, E_X12_feed_30, E_X12_feed_31, E_X12_feed_34, E_X12_feed_35, E_X12_feed_36, E_X12_feed_37, E_X12_feed_38, E_X12_feed_41, E_X12_feed_42, E_X12_feed_43, E_X12_feed_46, E_X12_feed_47, E_X12_feed_50, rk_137, rc_137, rg_137_15, rg_137_18, rp_137_15, ra_148, rs_148, i1, i2, t2, n8, hs1, hin, b1, gb_1, g1_0, gsi_1, Nat.reduceEqDiff, false_and, and_self, List.map_nil, List.map_cons, List.sum_cons, List.sum_nil, gcat_i, gcat_r, gcat_l, Nat.reduceAdd, Nat.reduceLeDiff, Nat.zero_le, Option.toList, List.cons_append, List.nil_append, gnk_i, gnk_r, gnk_n, gi_1, Nat.reduceLT, if_true, if_false]
    refine ⟨_, rfl, (by first | exact trivial | rfl), ⟨_, rfl⟩, gI_T (n := n + 1) (b := fun i => if i = n then v else b i) h (gAg_si (D := pT) (gAg_si (D := pT) (gAg_si (D := pT) (gAg_si (D := pT) gAg_refl (by unfold pT; omega)) (by unfold pT; omega)) (by unfold pT; omega)) (by unfold pT; omega)) ⟨?_, ?_, by omega, fun i hi => ?_⟩⟩
    · rw [gsi_1, if_neg (fun e => by omega), gsi_1, if_neg (fun e => by omega), gsi_1, if_pos ⟨rfl, rfl⟩]
    · rw [gsi_1, if_pos ⟨rfl, rfl⟩]
    · by_cases e : i = n
      · subst e
        dsimp only
        rw [if_pos rfl, gsi_1, if_neg (fun e => by omega), gsi_1, if_neg (fun e => by omega), gsi_1, if_neg (fun e => by omega), gsi_1, if_pos ⟨rfl, rfl⟩, gsi_1, if_neg (fun e => by omega), gsi_1, if_pos ⟨rfl, rfl⟩]
        exact ⟨by omega, rfl, rfl⟩
      · dsimp only
        rw [if_neg e, gsi_1, if_neg (fun e => by omega), gsi_1, if_neg (fun e => by omega), gsi_1, if_neg (fun e => by omega), gsi_1, if_neg (fun e => by omega), gsi_1, if_neg (fun e => by omega), gsi_1, if_neg (fun e => by omega), gsi_1, if_neg (fun e => by omega), gsi_1, if_neg (fun e => by omega)]
        exact t4 i (by omega)
theorem i_trace (h : gInv s) : gBoth w 91 195 [some (.ref 0), some (.int x)] [some (.ref 137), some (.int x)] s := by
  have h0 := h
  obtain ⟨φ, p, cu, cs, f, l1, l2, l3, h⟩ := gInv_I h
  obtain ⟨o, tr, ha, hb, h20, hc⟩ := h.2.2.2.2.2.1
  have hin := fun (a b c : Int32) (s : gm_S) (Q : Option Value → gc_M → Prop) => m_in (w := w) (d := 39) (s := s) (x := a) (y := b) (z := c) (Q := Q)
  by_cases hx : ∃ i, i < tr.length ∧ x = nI i
  · obtain ⟨i, hi, e⟩ := hx
    subst e
    have hg : tr[i]? = some tr[i] := List.getElem?_eq_getElem hi
    have i1 : vp_in (nI i) 20 := vp_in_nI (by omega) (by omega)
    have i2 : (nI i).toNatClampNeg = i := nI_clamp (by omega)
    have b1 : gB_in (nI i) 0 19 = true := gB_in_nI (k := 19) (by omega) (by omega)
    have hge : ¬ nI tr.length ≤ nI i := nI_ge hi (by omega)
    have hlt : nI i < 20 := nI_lt (b := 20) (by omega) (by omega)
    have hn : ¬ nI i < 0 := nI_pos (by omega)
    cases o with
    | none =>
      obtain ⟨a1, a2⟩ := ha
      subst a2
      simp at hi
    | some k =>
      obtain ⟨a1, a2, a3, a4⟩ := ha
      have hlt2 : 65 + 2 * k < 1000000 := by omega
      have v1 := a4 i _ hg
      have v2 := hc i _ hg
      refine i_no h0 tr[i] (fun Q => ?_) (fun Q => ?_)
      · simp only [E_X11_trace_0, E_X11_trace_1, E_X11_trace_4n, E_X11_trace_4r, E_X11_trace_7, E_X11_trace_8, E_X11_trace_11, E_X11_trace_12, E_X11_trace_13, E_X11_trace_16, E_X11_trace_19, E_X11_trace_22, E_X11_trace_23, E_X11_trace_25, E_X11_trace_28, E_X11_trace_29, E_X11_trace_30, E_X11_trace_31, E_X11_trace_34, E_X11_trace_37, E_X11_trace_38, E_X11_trace_39, rk_0, rg_0_15, a1, va_rf_some, hlt2, kk_ok a2, kg_2 a2, kg_3 a2, kg_a a2, kg_v a2, a3, v1, i1, i2, hge, hlt, hn, gnk_i, gnk_r, gnk_n, gi_1, Nat.reduceLT, if_true, if_false]
      · simp only [E_X12_trace_0, E_X12_trace_1, E_X12_trace_2, E_X12_trace_3, E_X12_trace_5, E_X12_trace_8, E_X12_trace_11, E_X12_trace_12, E_X12_trace_13, E_X12_trace_16, E_X12_trace_19, E_X12_trace_20, E_X12_trace_23, E_X12_trace_24, E_X12_trace_25, E_X12_trace_28, E_X12_trace_29, rk_137, rc_137, rg_137_73, rg_137_74, ra_187, rv_187, hb, v2, i1, i2, hge, hin, b1, gb_1, g1_0, List.map_nil, List.map_cons, List.sum_cons, List.sum_nil, gcat_i, gcat_r, gcat_l, Nat.reduceAdd, Nat.reduceLeDiff, Nat.zero_le, Option.toList, List.cons_append, List.nil_append, gnk_i, gnk_r, gnk_n, gi_1, Nat.reduceLT, if_true, if_false]
  · have hm : ∀ Q, gc_X w 40 195 0 [some (.ref 137), some (.int x)] [] (gm_m s) Q = Q (some (.int (-1))) (gm_m s) := by
      intro Q
      cases b1 : gB_in x 0 19 with
      | false => simp only [E_X12_trace_0, E_X12_trace_1, E_X12_trace_2, E_X12_trace_3, E_X12_trace_5, E_X12_trace_8, E_X12_trace_11, E_X12_trace_12, E_X12_trace_13, E_X12_trace_16, E_X12_trace_19, E_X12_trace_20, E_X12_trace_23, E_X12_trace_24, E_X12_trace_25, E_X12_trace_28, E_X12_trace_29, rc_137, hin, b1, gb_0, List.map_nil, List.map_cons, List.sum_cons, List.sum_nil, gcat_i, gcat_r, gcat_l, Nat.reduceAdd, Nat.reduceLeDiff, Nat.zero_le, Option.toList, List.cons_append, List.nil_append, gnk_i, gnk_r, gnk_n, gi_1, Nat.reduceLT, if_true, if_false]
      | true =>
        obtain ⟨i, hi, e⟩ := gB_in_ex (k := 19) b1 (by decide)
        subst e
        have hge : nI tr.length ≤ nI i := nI_le (by
          have : ¬ i < tr.length := fun q => hx ⟨i, q, rfl⟩
          omega) (by omega)
        simp only [E_X12_trace_0, E_X12_trace_1, E_X12_trace_2, E_X12_trace_3, E_X12_trace_5, E_X12_trace_8, E_X12_trace_11, E_X12_trace_12, E_X12_trace_13, E_X12_trace_16, E_X12_trace_19, E_X12_trace_20, E_X12_trace_23, E_X12_trace_24, E_X12_trace_25, E_X12_trace_28, E_X12_trace_29, rk_137, rc_137, rg_137_73, hb, hge, hin, b1, gb_1, g1_0, List.map_nil, List.map_cons, List.sum_cons, List.sum_nil, gcat_i, gcat_r, gcat_l, Nat.reduceAdd, Nat.reduceLeDiff, Nat.zero_le, Option.toList, List.cons_append, List.nil_append, gnk_i, gnk_r, gnk_n, gi_1, Nat.reduceLT, if_true, if_false]
    refine i_no h0 (-1) (fun Q => ?_) hm
    cases o with
    | none => simp only [E_X11_trace_0, E_X11_trace_1, E_X11_trace_4n, E_X11_trace_4r, E_X11_trace_7, E_X11_trace_8, E_X11_trace_11, E_X11_trace_12, E_X11_trace_13, E_X11_trace_16, E_X11_trace_19, E_X11_trace_22, E_X11_trace_23, E_X11_trace_25, E_X11_trace_28, E_X11_trace_29, E_X11_trace_30, E_X11_trace_31, E_X11_trace_34, E_X11_trace_37, E_X11_trace_38, E_X11_trace_39, rk_0, rg_0_15, ha.1, va_rf_none, gnk_i, gnk_r, gnk_n, gi_1, Nat.reduceLT, if_true, if_false]
    | some k =>
      obtain ⟨a1, a2, a3, a4⟩ := ha
      have hlt2 : 65 + 2 * k < 1000000 := by omega
      by_cases hn : x < 0
      · simp only [E_X11_trace_0, E_X11_trace_1, E_X11_trace_4n, E_X11_trace_4r, E_X11_trace_7, E_X11_trace_8, E_X11_trace_11, E_X11_trace_12, E_X11_trace_13, E_X11_trace_16, E_X11_trace_19, E_X11_trace_22, E_X11_trace_23, E_X11_trace_25, E_X11_trace_28, E_X11_trace_29, E_X11_trace_30, E_X11_trace_31, E_X11_trace_34, E_X11_trace_37, E_X11_trace_38, E_X11_trace_39, rk_0, rg_0_15, a1, va_rf_some, hlt2, hn, gnk_i, gnk_r, gnk_n, gi_1, Nat.reduceLT, if_true, if_false]
      · obtain ⟨i, hi, e⟩ := nI_of hn
        subst e
        have hge : nI tr.length ≤ nI i := nI_le (by
          have : ¬ i < tr.length := fun q => hx ⟨i, q, rfl⟩
          omega) hi
        simp only [E_X11_trace_0, E_X11_trace_1, E_X11_trace_4n, E_X11_trace_4r, E_X11_trace_7, E_X11_trace_8, E_X11_trace_11, E_X11_trace_12, E_X11_trace_13, E_X11_trace_16, E_X11_trace_19, E_X11_trace_22, E_X11_trace_23, E_X11_trace_25, E_X11_trace_28, E_X11_trace_29, E_X11_trace_30, E_X11_trace_31, E_X11_trace_34, E_X11_trace_37, E_X11_trace_38, E_X11_trace_39, rk_0, rg_0_15, a1, va_rf_some, hlt2, kk_ok a2, kg_2 a2, a3, hge, hn, gnk_i, gnk_r, gnk_n, gi_1, Nat.reduceLT, if_true, if_false]
end
