/-! both sides, call by call: what asks the trial -/
def gI (s : gm_S) (φ : List (List fC)) (p : gA) (cu : Option Nat) (cs : List fC) (f : Nat) (l1 : List gTr) (l2 l3 : List (Nat × Nat)) : Prop := kFi s φ ∧ kYd s φ p cu cs f ∧ kLs s p.1.2.2 l1 l2 l3 ∧ kIm s φ ∧ kG2 s ∧ kG3 s ∧ kTp s
theorem gInv_I {s : gm_S} (h : gInv s) : ∃ φ p cu cs f l1 l2 l3, gI s φ p cu cs f l1 l2 l3 := by
  obtain ⟨⟨φ, p, cu, cs, f, l1, l2, l3, h1, h2, h3, h4⟩, h5, h6, h7⟩ := h
  exact ⟨φ, p, cu, cs, f, l1, l2, l3, h1, h2, h3, h4, h5, h6, h7⟩
theorem gI_Inv {s : gm_S} {φ : List (List fC)} {p : gA} {cu : Option Nat} {cs : List fC} {f : Nat} {l1 : List gTr} {l2 l3 : List (Nat × Nat)} (h : gI s φ p cu cs f l1 l2 l3) : gInv s := by
  obtain ⟨h1, h2, h3, h4, h5, h6, h7⟩ := h
  exact ⟨⟨φ, p, cu, cs, f, l1, l2, l3, h1, h2, h3, h4⟩, h5, h6, h7⟩
section
variable {s s' : gm_S} {φ : List (List fC)} {p : gA} {cu : Option Nat} {cs : List fC} {f : Nat} {l1 : List gTr} {l2 l3 : List (Nat × Nat)}
theorem gI_U (h : gI s φ p cu cs f l1 l2 l3) (e : cU s s') : gI s' φ p cu cs f l1 l2 l3 := by
  obtain ⟨h1, h2, h3, h4, ⟨n, b, h5⟩, ⟨o, tr, h6⟩, h7⟩ := h
  obtain ⟨e1, e2, e3⟩ := e
  exact ⟨kFi_cg h1 (fun b j q => e3 b j (by omega)), kYd_cg h2 h1.2.2.1 (e2 _ _ (by omega)) (fun b j q => e3 b j (by omega)), kLs_cg h3 (fun b j q => e3 b j (by omega)), kIm_cg h4 h1.2.2.1 (e2 _ _ (by omega)) (fun b j q => e3 b j (by omega)), ⟨n, b, kTx_cg h5 (fun b j q => e3 b j (by omega))⟩, ⟨o, tr, kAc_cg h6 (e2 _ _ (by omega)) (fun b j q => e3 b j (by omega))⟩, kTp_cg h7 (fun b j q => by rw [e1]) (fun b j q => e3 b j (by omega))⟩
theorem gI_B (h : gI s φ p cu cs f l1 l2 l3) (e : mB s s') (hY : mYY s' cu cs p) : gInv s' := gInv_B h.1 h.2.1 h.2.2.1 h.2.2.2.1 h.2.2.2.2.1 h.2.2.2.2.2.1 h.2.2.2.2.2.2 e hY
theorem gI_R (h : gI s φ p cu cs f l1 l2 l3) : gR s 83 f (fC_flat cs).length p := h.2.1.2.2.1
theorem gI_ok (h : gI s φ p cu cs f l1 l2 l3) : gA_ok p := h.2.1.2.1.1
theorem gI_k2 (h : gI s φ p cu cs f l1 l2 l3) : gA_k2 p := h.2.1.2.1.2.1
theorem gI_k3 (h : gI s φ p cu cs f l1 l2 l3) : gA_k3 p := h.2.1.2.1.2.2.1
theorem gI_k4 (h : gI s φ p cu cs f l1 l2 l3) : gA_k4 p := h.2.1.2.1.2.2.2.1
theorem gI_cs (h : gI s φ p cu cs f l1 l2 l3) : fCs cs := h.2.1.2.1.2.2.2.2.1
theorem gI_hh (h : gI s φ p cu cs f l1 l2 l3) : p.1.1 ≤ 9999 := h.2.1.2.1.2.2.2.2.2.1
theorem gI_YY (h : gI s φ p cu cs f l1 l2 l3) : mYY s cu cs p := mYY_k h.2.1
theorem gI_mR (h : gI s φ p cu cs f l1 l2 l3) : mR s p := h.2.1.2.2.2.1
end
/-- the one's call, then the other's: the same answer, and all is kept -/
def gBoth (w : Nat × (Nat → Int32)) (c m : Nat) (Lc Lm : gc_L) (s : gm_S) : Prop := gc_X w 40 c 0 Lc [] (gm_m s) (fun r M => ∃ s1, M = gm_m s1 ∧ gc_X w 40 m 0 Lm [] (gm_m s1) (fun r' M' => ∃ s2, M' = gm_m s2 ∧ r' = r ∧ (∃ x, r = some (.int x)) ∧ gInv s2))
def gBothL (w : Nat × (Nat → Int32)) (c m : Nat) (Lc Lm : gc_L) (s : gm_S) : Prop := gc_X w 40 c 0 Lc [] (gm_m s) (fun r M => ∃ s1, M = gm_m s1 ∧ gc_X w 40 m 0 Lm [] (gm_m s1) (fun r' M' => ∃ s2, M' = gm_m s2 ∧ r' = r ∧ (∃ x, r = some (.long x)) ∧ gInv s2))
section
variable {w : Nat × (Nat → Int32)} {s : gm_S} {x y z n : Int32}
theorem i_on (h : gInv s) : gBoth w 77 163 [some (.ref 0), some (.int n), some (.int x), none, none, none] [some (.ref 137), some (.int n), some (.int x), none] s := by
  obtain ⟨φ, p, cu, cs, f, l1, l2, l3, h⟩ := gInv_I h
  refine c_on (gI_R h) (gI_ok h) (gI_hh h) (fun s1 hT => ⟨s1, rfl, ?_⟩)
  have h' := gI_U h (cU_T hT)
  exact m_on (gI_YY h') (fun s2 hA hY => ⟨s2, rfl, rfl, ⟨_, rfl⟩, gI_B h' (mB_A hA) hY⟩)
theorem i_best (h : gInv s) : gBoth w 78 168 [some (.ref 0), some (.int n), some (.int x)] [some (.ref 137), some (.int n), some (.int x)] s := by
  obtain ⟨φ, p, cu, cs, f, l1, l2, l3, h⟩ := gInv_I h
  refine c_best (gI_R h) (gI_ok h) (gI_k3 h) (gI_hh h) (fun s1 hT => ⟨s1, rfl, ?_⟩)
  have h' := gI_U h (cU_T hT)
  exact m_best (gI_YY h') (gI_k3 h') (fun s2 hA hY => ⟨s2, rfl, rfl, ⟨_, rfl⟩, gI_B h' (mB_A hA) hY⟩)
theorem i_ends (h : gInv s) : gBoth w 84 180 [some (.ref 0), some (.int x), none] [some (.ref 137), some (.int x), none] s := by
  obtain ⟨φ, p, cu, cs, f, l1, l2, l3, h⟩ := gInv_I h
  refine c_ends (gI_R h) (gI_ok h) (gI_k2 h) (gI_hh h) h.2.2.1.2.1.2.2 h.2.2.1.2.1.1 (fun s1 hT => ⟨s1, rfl, ?_⟩)
  have h' := gI_U h (cU_T hT)
  exact m_ends (gI_YY h') h'.2.2.1.2.1.2.2 h'.2.2.1.2.1.2.1 (fun s2 hA hY => ⟨s2, rfl, rfl, ⟨_, rfl⟩, gI_B h' (mB_A hA) hY⟩)
theorem i_can (h : gInv s) : gBoth w 80 173 [some (.ref 0), some (.int x), some (.int y)] [some (.ref 137), some (.int x), some (.int y), none, none, none, none] s := by
  obtain ⟨φ, p, cu, cs, f, l1, l2, l3, h⟩ := gInv_I h
  refine c_can (gI_R h) (gI_ok h) (gI_hh h) h.2.2.1.1.2.2 h.2.2.1.1.1 (fun s1 hT => ⟨s1, rfl, ?_⟩)
  have h' := gI_U h (cU_T hT)
  exact m_can h'.2.2.1.1.2.2 (gI_YY h') h'.2.2.1.1.2.1 (fun s2 hB hY => ⟨s2, rfl, rfl, ⟨_, rfl⟩, gI_B h' hB hY⟩)
theorem i_odds (h : gInv s) : gBothL w 81 176 [some (.ref 0), some (.int x), some (.int n), some (.int y), none, none] [some (.ref 137), some (.int x), some (.int n), some (.int y), none, none, none, none] s := by
  obtain ⟨φ, p, cu, cs, f, l1, l2, l3, h⟩ := gInv_I h
  refine c_odds (gI_R h) (gI_ok h) (gI_hh h) (fun s1 hT => ⟨s1, rfl, ?_⟩)
  have h' := gI_U h (cU_T hT)
  exact m_odds (gI_YY h') (fun s2 hB hY => ⟨s2, rfl, rfl, ⟨_, rfl⟩, gI_B h' hB hY⟩)
theorem i_mean (h : gInv s) : gBothL w 82 177 [some (.ref 0), some (.int y), none, none, none] [some (.ref 137), some (.int y), none, none, none] s := by
  have h0 := h
  obtain ⟨φ, p, cu, cs, f, l1, l2, l3, h⟩ := gInv_I h
  unfold gBothL
  rw [c_mean (d := 38) (gI_R h) (gI_ok h) (gI_k4 h)]
  refine ⟨s, rfl, ?_⟩
  rw [m_mean (d := 38) (gI_mR h) (gI_ok h) (gI_k4 h)]
  exact ⟨s, rfl, rfl, ⟨_, rfl⟩, h0⟩
end
/-! of, load, told -/
theorem gA_of_neg {n : Nat} {x : Int32} (h : x < 0) : gA_of n x = false := by
  unfold gA_of
  rw [decide_eq_true h]
  rfl
def a_of (p : gA) (x y : Int32) : Int32 := if gA_of p.1.2.1 x = false then -10001 else if y = 0 then p.2.1 2 x.toNatClampNeg else if y = 1 then p.2.1 3 x.toNatClampNeg else if y = 2 then p.2.1 4 x.toNatClampNeg else if y = 3 then gp_i (gA_hung p x.toNatClampNeg) (-5) else if gA_of p.1.2.2 (y - 10) = false then -10001 else gA_pow p x.toNatClampNeg (y - 10).toNatClampNeg
section
variable {w : Nat × (Nat → Int32)} {d f m : Nat} {s : gm_S} {p : gA} {Q : Option Value → gc_M → Prop} {x y n : Int32} {cs : List fC} {cu : Option Nat}
theorem c_orNot : gc_X w d 99 0 [some (.int x)] [] (gm_m s) Q = Q (some (.int (mS x))) (gm_m s) := by
  unfold mS
  by_cases h : x = -1 <;> simp only [E_X11_orNotAny_0, E_X11_orNotAny_1, E_X11_orNotAny_2, E_X11_orNotAny_5, E_X11_orNotAny_7, E_X11_orNotAny_10, E_X11_orNotAny_11, h, gnk_i, gnk_r, gnk_n, gi_1, Nat.reduceLT, if_true, if_false]
theorem mS_gp {r : Option Nat} (h : ∀ t, r = some t → t < 8) : mS (gp_i r (-1)) = gp_i r (-5) := by
  cases r with
  | none => rfl
  | some t => exact mS_c (h t rfl)
theorem c_of (hR : gR s 83 f m p) (hk : gA_ok p) (hq : ∀ s', cU s s' → Q (some (.int (a_of p x y))) (gm_m s')) : gc_X w (d + 4) 67 0 [some (.ref 0), some (.int x), some (.int y), none] [] (gm_m s) Q := by
  have k6 := hk.1
  have k8 := hk.2.1
  have hhc := fun (z : Int32) (Q : Option Value → gc_M → Prop) => gy_hasCrane (w := w) (d := d + 3) (x := z) (Q := Q) hR
  have hht := fun (z : Int32) (Q : Option Value → gc_M → Prop) => gy_hasThing (w := w) (d := d + 3) (x := z) (Q := Q) hR
  unfold a_of at hq
  cases b1 : gA_of p.1.2.1 x with
  | false =>
    rw [b1, if_pos rfl] at hq
    simp only [E_X11_of_0, E_X11_of_1, E_X11_of_4, E_X11_of_5, E_X11_of_8, E_X11_of_11, E_X11_of_14, E_X11_of_15, E_X11_of_16, E_X11_of_48, E_X11_of_49, E_X11_of_52, E_X11_of_55, E_X11_of_56, E_X11_of_57, E_X11_of_58, E_X11_of_59, E_X11_of_62, E_X11_of_65, E_X11_of_66, E_X11_of_67, E_X11_of_68, E_X11_of_69, E_X11_of_72, E_X11_of_75, E_X11_of_76, E_X11_of_77, E_X11_of_78, E_X11_of_79, E_X11_of_82, E_X11_of_83, E_X11_of_86, E_X11_of_89, E_X11_of_90, E_X11_of_91, E_X11_of_93, E_X11_of_94, E_X11_of_95, E_X11_of_96, E_X11_of_99, E_X11_of_100, E_X11_of_103, E_X11_of_106, E_X11_of_107, E_X11_of_110, E_X11_of_111, E_X11_of_112, E_X11_of_115, E_X11_of_118, E_X11_of_121, rk_0, rc_83, rg_0_0, hhc, b1, gb_0, List.map_nil, List.map_cons, List.sum_cons, List.sum_nil, gcat_i, gcat_r, gcat_l, Nat.reduceAdd, Nat.reduceLeDiff, Nat.zero_le, Option.toList, List.cons_append, List.nil_append, gnk_i, gnk_r, gnk_n, gi_1, Nat.reduceLT, if_true, if_false]
    exact hq s cU_refl
  | true =>
    rw [b1, if_neg (by decide)] at hq
    obtain ⟨c, hc, e⟩ := gA_of_ex b1 (by omega)
    subst e
    have i1 : vp_in (nI c) 6 := vp_in_nI (by omega) (by omega)
    have i2 : (nI c).toNatClampNeg = c := nI_clamp (by omega)
    rw [i2] at hq
    have a2 : s.1 85 c = p.2.1 2 c := hR.2.2.2.2.2.2.2.1 2 c (Or.inr (Or.inl ⟨Or.inl rfl, hc⟩))
    have a3 : s.1 86 c = p.2.1 3 c := hR.2.2.2.2.2.2.2.1 3 c (Or.inr (Or.inl ⟨Or.inr (Or.inl rfl), hc⟩))
    have a4 : s.1 87 c = p.2.1 4 c := hR.2.2.2.2.2.2.2.1 4 c (Or.inr (Or.inl ⟨Or.inr (Or.inr rfl), hc⟩))
    by_cases y0 : y = 0
    · rw [if_pos y0] at hq
      simp only [E_X11_of_0, E_X11_of_1, E_X11_of_4, E_X11_of_5, E_X11_of_8, E_X11_of_11, E_X11_of_14, E_X11_of_15, E_X11_of_16, E_X11_of_48, E_X11_of_49, E_X11_of_52, E_X11_of_55, E_X11_of_56, E_X11_of_57, E_X11_of_58, E_X11_of_59, E_X11_of_62, E_X11_of_65, E_X11_of_66, E_X11_of_67, E_X11_of_68, E_X11_of_69, E_X11_of_72, E_X11_of_75, E_X11_of_76, E_X11_of_77, E_X11_of_78, E_X11_of_79, E_X11_of_82, E_X11_of_83, E_X11_of_86, E_X11_of_89, E_X11_of_90, E_X11_of_91, E_X11_of_93, E_X11_of_94, E_X11_of_95, E_X11_of_96, E_X11_of_99, E_X11_of_100, E_X11_of_103, E_X11_of_106, E_X11_of_107, E_X11_of_110, E_X11_of_111, E_X11_of_112, E_X11_of_115, E_X11_of_118, E_X11_of_121, rk_0, rk_83, rc_83, rg_0_0, rg_83_5, ra_85, rv_85, i1, i2, a2, hhc, b1, y0, gb_1, g1_0, List.map_nil, List.map_cons, List.sum_cons, List.sum_nil, gcat_i, gcat_r, gcat_l, Nat.reduceAdd, Nat.reduceLeDiff, Nat.zero_le, Option.toList, List.cons_append, List.nil_append, gnk_i, gnk_r, gnk_n, gi_1, Nat.reduceLT, if_true, if_false]
      exact hq s cU_refl
    rw [if_neg y0] at hq
    by_cases y1 : y = 1
    · rw [if_pos y1] at hq
      simp only [E_X11_of_0, E_X11_of_1, E_X11_of_4, E_X11_of_5, E_X11_of_8, E_X11_of_11, E_X11_of_14, E_X11_of_15, E_X11_of_16, E_X11_of_48, E_X11_of_49, E_X11_of_52, E_X11_of_55, E_X11_of_56, E_X11_of_57, E_X11_of_58, E_X11_of_59, E_X11_of_62, E_X11_of_65, E_X11_of_66, E_X11_of_67, E_X11_of_68, E_X11_of_69, E_X11_of_72, E_X11_of_75, E_X11_of_76, E_X11_of_77, E_X11_of_78, E_X11_of_79, E_X11_of_82, E_X11_of_83, E_X11_of_86, E_X11_of_89, E_X11_of_90, E_X11_of_91, E_X11_of_93, E_X11_of_94, E_X11_of_95, E_X11_of_96, E_X11_of_99, E_X11_of_100, E_X11_of_103, E_X11_of_106, E_X11_of_107, E_X11_of_110, E_X11_of_111, E_X11_of_112, E_X11_of_115, E_X11_of_118, E_X11_of_121, rk_0, rk_83, rc_83, rg_0_0, rg_83_6, ra_86, rv_86, i1, i2, a3, hhc, b1, y1, gb_1, g1_0, List.map_nil, List.map_cons, List.sum_cons, List.sum_nil, gcat_i, gcat_r, gcat_l, Nat.reduceAdd, Nat.reduceLeDiff, Nat.zero_le, Option.toList, List.cons_append, List.nil_append, gnk_i, gnk_r, gnk_n, gi_1, Nat.reduceLT, if_true, if_false]
      exact hq s cU_refl
    rw [if_neg y1] at hq
    by_cases y2 : y = 2
    · rw [if_pos y2] at hq
      have e20 : ((2 : Int32) = 0) = False := eq_false (by decide)
      have e21 : ((2 : Int32) = 1) = False := eq_false (by decide)
      simp only [E_X11_of_0, E_X11_of_1, E_X11_of_4, E_X11_of_5, E_X11_of_8, E_X11_of_11, E_X11_of_14, E_X11_of_15, E_X11_of_16, E_X11_of_48, E_X11_of_49, E_X11_of_52, E_X11_of_55, E_X11_of_56, E_X11_of_57, E_X11_of_58, E_X11_of_59, E_X11_of_62, E_X11_of_65, E_X11_of_66, E_X11_of_67, E_X11_of_68, E_X11_of_69, E_X11_of_72, E_X11_of_75, E_X11_of_76, E_X11_of_77, E_X11_of_78, E_X11_of_79, E_X11_of_82, E_X11_of_83, E_X11_of_86, E_X11_of_89, E_X11_of_90, E_X11_of_91, E_X11_of_93, E_X11_of_94, E_X11_of_95, E_X11_of_96, E_X11_of_99, E_X11_of_100, E_X11_of_103, E_X11_of_106, E_X11_of_107, E_X11_of_110, E_X11_of_111, E_X11_of_112, E_X11_of_115, E_X11_of_118, E_X11_of_121, rk_0, rk_83, rc_83, rg_0_0, rg_83_7, ra_87, rv_87, i1, i2, a4, hhc, b1, y2, e20, e21, gb_1, g1_0, List.map_nil, List.map_cons, List.sum_cons, List.sum_nil, gcat_i, gcat_r, gcat_l, Nat.reduceAdd, Nat.reduceLeDiff, Nat.zero_le, Option.toList, List.cons_append, List.nil_append, gnk_i, gnk_r, gnk_n, gi_1, Nat.reduceLT, if_true, if_false]
      exact hq s cU_refl
    rw [if_neg y2] at hq
    by_cases y3 : y = 3
    · rw [if_pos y3] at hq
      have e20 : ((3 : Int32) = 0) = False := eq_false (by decide)
      have e21 : ((3 : Int32) = 1) = False := eq_false (by decide)
      have e22 : ((3 : Int32) = 2) = False := eq_false (by decide)
      have hu := fun (Q : Option Value → gc_M → Prop) => gR_hung (w := w) (d := d + 3) (c := c) (Q := Q) hR hk
      have em : mS (gp_i (gA_hung p c) (-1)) = gp_i (gA_hung p c) (-5) := mS_gp (fun t ht => by
        have := gA_hung_lt ht
        omega)
      simp only [E_X11_of_0, E_X11_of_1, E_X11_of_4, E_X11_of_5, E_X11_of_8, E_X11_of_11, E_X11_of_14, E_X11_of_15, E_X11_of_16, E_X11_of_48, E_X11_of_49, E_X11_of_52, E_X11_of_55, E_X11_of_56, E_X11_of_57, E_X11_of_58, E_X11_of_59, E_X11_of_62, E_X11_of_65, E_X11_of_66, E_X11_of_67, E_X11_of_68, E_X11_of_69, E_X11_of_72, E_X11_of_75, E_X11_of_76, E_X11_of_77, E_X11_of_78, E_X11_of_79, E_X11_of_82, E_X11_of_83, E_X11_of_86, E_X11_of_89, E_X11_of_90, E_X11_of_91, E_X11_of_93, E_X11_of_94, E_X11_of_95, E_X11_of_96, E_X11_of_99, E_X11_of_100, E_X11_of_103, E_X11_of_106, E_X11_of_107, E_X11_of_110, E_X11_of_111, E_X11_of_112, E_X11_of_115, E_X11_of_118, E_X11_of_121, rk_0, rc_83, rg_0_0, hhc, hu, c_orNot, em, b1, y3, e20, e21, e22, gb_1, g1_0, List.map_nil, List.map_cons, List.sum_cons, List.sum_nil, gcat_i, gcat_r, gcat_l, Nat.reduceAdd, Nat.reduceLeDiff, Nat.zero_le, Option.toList, List.cons_append, List.nil_append, gnk_i, gnk_r, gnk_n, gi_1, Nat.reduceLT, if_true, if_false]
      exact hq s cU_refl
    rw [if_neg y3] at hq
    cases b2 : gA_of p.1.2.2 (y - 10) with
    | false =>
      rw [b2, if_pos rfl] at hq
      simp only [E_X11_of_0, E_X11_of_1, E_X11_of_4, E_X11_of_5, E_X11_of_8, E_X11_of_11, E_X11_of_14, E_X11_of_15, E_X11_of_16, E_X11_of_48, E_X11_of_49, E_X11_of_52, E_X11_of_55, E_X11_of_56, E_X11_of_57, E_X11_of_58, E_X11_of_59, E_X11_of_62, E_X11_of_65, E_X11_of_66, E_X11_of_67, E_X11_of_68, E_X11_of_69, E_X11_of_72, E_X11_of_75, E_X11_of_76, E_X11_of_77, E_X11_of_78, E_X11_of_79, E_X11_of_82, E_X11_of_83, E_X11_of_86, E_X11_of_89, E_X11_of_90, E_X11_of_91, E_X11_of_93, E_X11_of_94, E_X11_of_95, E_X11_of_96, E_X11_of_99, E_X11_of_100, E_X11_of_103, E_X11_of_106, E_X11_of_107, E_X11_of_110, E_X11_of_111, E_X11_of_112, E_X11_of_115, E_X11_of_118, E_X11_of_121, rk_0, rc_83, rg_0_0, hhc, hht, b1, b2, y0, y1, y2, y3, gb_0, gb_1, g1_0, List.map_nil, List.map_cons, List.sum_cons, List.sum_nil, gcat_i, gcat_r, gcat_l, Nat.reduceAdd, Nat.reduceLeDiff, Nat.zero_le, Option.toList, List.cons_append, List.nil_append, gnk_i, gnk_r, gnk_n, gi_1, Nat.reduceLT, if_true, if_false]
      exact hq s cU_refl
    | true =>
      rw [b2, if_neg (by decide)] at hq
      obtain ⟨t, ht, e⟩ := gA_of_ex b2 (by omega)
      rw [e, nI_clamp (by omega)] at hq
      rw [e] at b2
      simp only [E_X11_of_0, E_X11_of_1, E_X11_of_4, E_X11_of_5, E_X11_of_8, E_X11_of_11, E_X11_of_14, E_X11_of_15, E_X11_of_16, E_X11_of_48, E_X11_of_49, E_X11_of_52, E_X11_of_55, E_X11_of_56, E_X11_of_57, E_X11_of_58, E_X11_of_59, E_X11_of_62, E_X11_of_65, E_X11_of_66, E_X11_of_67, E_X11_of_68, E_X11_of_69, E_X11_of_72, E_X11_of_75, E_X11_of_76, E_X11_of_77, E_X11_of_78, E_X11_of_79, E_X11_of_82, E_X11_of_83, E_X11_of_86, E_X11_of_89, E_X11_of_90, E_X11_of_91, E_X11_of_93, E_X11_of_94, E_X11_of_95, E_X11_of_96, E_X11_of_99, E_X11_of_100, E_X11_of_103, E_X11_of_106, E_X11_of_107, E_X11_of_110, E_X11_of_111, E_X11_of_112, E_X11_of_115, E_X11_of_118, E_X11_of_121, rk_0, rc_83, rg_0_0, hhc, hht, b1, b2, e, y0, y1, y2, y3, gb_0, gb_1, g1_0, List.map_nil, List.map_cons, List.sum_cons, List.sum_nil, gcat_i, gcat_r, gcat_l, Nat.reduceAdd, Nat.reduceLeDiff, Nat.zero_le, Option.toList, List.cons_append, List.nil_append, gnk_i, gnk_r, gnk_n, gi_1, Nat.reduceLT, if_true, if_false]
      refine gy_power hR hk hc ht (fun s' hfr _ => ?_)
      simp only [E_X11_of_0, E_X11_of_1, E_X11_of_4, E_X11_of_5, E_X11_of_8, E_X11_of_11, E_X11_of_14, E_X11_of_15, E_X11_of_16, E_X11_of_48, E_X11_of_49, E_X11_of_52, E_X11_of_55, E_X11_of_56, E_X11_of_57, E_X11_of_58, E_X11_of_59, E_X11_of_62, E_X11_of_65, E_X11_of_66, E_X11_of_67, E_X11_of_68, E_X11_of_69, E_X11_of_72, E_X11_of_75, E_X11_of_76, E_X11_of_77, E_X11_of_78, E_X11_of_79, E_X11_of_82, E_X11_of_83, E_X11_of_86, E_X11_of_89, E_X11_of_90, E_X11_of_91, E_X11_of_93, E_X11_of_94, E_X11_of_95, E_X11_of_96, E_X11_of_99, E_X11_of_100, E_X11_of_103, E_X11_of_106, E_X11_of_107, E_X11_of_110, E_X11_of_111, E_X11_of_112, E_X11_of_115, E_X11_of_118, E_X11_of_121, List.map_nil, List.map_cons, List.sum_cons, List.sum_nil, gcat_i, gcat_r, gcat_l, Nat.reduceAdd, Nat.reduceLeDiff, Nat.zero_le, Option.toList, List.cons_append, List.nil_append, gnk_i, gnk_r, gnk_n, gi_1, Nat.reduceLT, if_true, if_false]
      exact hq s' (cU_fr hfr)
theorem m_of (h : mYY s cu cs p) (hq : ∀ s', mA s s' → mYY s' cu cs p → Q (some (.int (a_of p x y))) (gm_m s')) : gc_X w (d + 4) 150 0 [some (.ref 137), some (.int x), some (.int y)] [] (gm_m s) Q := by
  have hk := h.2.1
  have k6 := hk.1
  have k8 := hk.2.1
  have h9 := h.1.1.2.1
  have hin := fun (a b c : Int32) (Q : Option Value → gc_M → Prop) => m_in (w := w) (d := d + 3) (s := s) (x := a) (y := b) (z := c) (Q := Q)
  have hic := fun (a : Int32) (Q : Option Value → gc_M → Prop) => m_isCrane (w := w) (d := d + 2) (x := a) (Q := Q) h.1.1 hk
  have c1 := gB_10 (x := y) k8
  have hr : (0 : Int32) - 10 < 0 ∧ (1 : Int32) - 10 < 0 ∧ (2 : Int32) - 10 < 0 ∧ (3 : Int32) - 10 < 0 := by decide
  unfold a_of at hq
  cases b1 : gA_of p.1.2.1 x with
  | false =>
    rw [b1, if_pos rfl] at hq
    simp only [E_X12_of_0, E_X12_of_1, E_X12_of_2, E_X12_of_5, E_X12_of_8, E_X12_of_11, E_X12_of_12, E_X12_of_13, E_X12_of_14, E_X12_of_16, E_X12_of_18, E_X12_of_19, E_X12_of_22, E_X12_of_23, E_X12_of_26, E_X12_of_29, E_X12_of_30, E_X12_of_31, E_X12_of_32, E_X12_of_34, E_X12_of_35, E_X12_of_38, E_X12_of_39, E_X12_of_40, E_X12_of_72, E_X12_of_73, E_X12_of_76, E_X12_of_77, E_X12_of_78, E_X12_of_79, E_X12_of_80, E_X12_of_83, E_X12_of_84, E_X12_of_85, E_X12_of_86, E_X12_of_87, E_X12_of_90, E_X12_of_91, E_X12_of_92, E_X12_of_93, E_X12_of_94, E_X12_of_95, E_X12_of_98, E_X12_of_99, E_X12_of_102, rc_137, hic, b1, gb_0, List.map_nil, List.map_cons, List.sum_cons, List.sum_nil, gcat_i, gcat_r, gcat_l, Nat.reduceAdd, Nat.reduceLeDiff, Nat.zero_le, Option.toList, List.cons_append, List.nil_append, gnk_i, gnk_r, gnk_n, gi_1, Nat.reduceLT, if_true, if_false]
    exact hq s mA_refl h
  | true =>
    rw [b1, if_neg (by decide)] at hq
    obtain ⟨c, hc, e⟩ := gA_of_ex b1 (by omega)
    subst e
    have i1 : vp_in (nI c) 6 := vp_in_nI (by omega) (by omega)
    have i2 : (nI c).toNatClampNeg = c := nI_clamp (by omega)
    rw [i2] at hq
    obtain ⟨a2, a3, -⟩ := h.1.1.2.2.2.2.1 c hc
    have a4 : s.1 141 c = p.2.1 4 c := by
      rcases h.1.2.2.2.1 c hc with ⟨-, e⟩ | ⟨e, -⟩
      · exact e
      · exact absurd e (by decide)
    cases b2 : gA_of p.1.2.2 (y - 10) with
    | true =>
      have n0 : ¬ y = 0 := fun e => by rw [e, gA_of_neg hr.1] at b2; cases b2
      have n1 : ¬ y = 1 := fun e => by rw [e, gA_of_neg hr.2.1] at b2; cases b2
      have n2 : ¬ y = 2 := fun e => by rw [e, gA_of_neg hr.2.2.1] at b2; cases b2
      have n3 : ¬ y = 3 := fun e => by rw [e, gA_of_neg hr.2.2.2] at b2; cases b2
      rw [b2, if_neg n0, if_neg n1, if_neg n2, if_neg n3, if_neg (by decide)] at hq
      rw [b2] at c1
      obtain ⟨t, ht, e⟩ := gA_of_ex b2 (by omega)
      rw [e, nI_clamp (by omega)] at hq
      simp only [E_X12_of_0, E_X12_of_1, E_X12_of_2, E_X12_of_5, E_X12_of_8, E_X12_of_11, E_X12_of_12, E_X12_of_13, E_X12_of_14, E_X12_of_16, E_X12_of_18, E_X12_of_19, E_X12_of_22, E_X12_of_23, E_X12_of_26, E_X12_of_29, E_X12_of_30, E_X12_of_31, E_X12_of_32, E_X12_of_34, E_X12_of_35, E_X12_of_38, E_X12_of_39, E_X12_of_40, E_X12_of_72, E_X12_of_73, E_X12_of_76, E_X12_of_77, E_X12_of_78, E_X12_of_79, E_X12_of_80, E_X12_of_83, E_X12_of_84, E_X12_of_85, E_X12_of_86, E_X12_of_87, E_X12_of_90, E_X12_of_91, E_X12_of_92, E_X12_of_93, E_X12_of_94, E_X12_of_95, E_X12_of_98, E_X12_of_99, E_X12_of_102, rk_137, rc_137, rg_137_1, h9, hic, hin, c1, b1, e, gb_1, g1_0, List.map_nil, List.map_cons, List.sum_cons, List.sum_nil, gcat_i, gcat_r, gcat_l, Nat.reduceAdd, Nat.reduceLeDiff, Nat.zero_le, Option.toList, List.cons_append, List.nil_append, gnk_i, gnk_r, gnk_n, gi_1, Nat.reduceLT, if_true, if_false]
      refine m_power h.1.1 hk h.1.2.1 h.2.2.2.1 h.1.2.2.2.2.1 hc ht (mL_9 (h.1.2.2.2.1 c hc)) (fun s' hfr => ?_)
      simp only [E_X12_of_0, E_X12_of_1, E_X12_of_2, E_X12_of_5, E_X12_of_8, E_X12_of_11, E_X12_of_12, E_X12_of_13, E_X12_of_14, E_X12_of_16, E_X12_of_18, E_X12_of_19, E_X12_of_22, E_X12_of_23, E_X12_of_26, E_X12_of_29, E_X12_of_30, E_X12_of_31, E_X12_of_32, E_X12_of_34, E_X12_of_35, E_X12_of_38, E_X12_of_39, E_X12_of_40, E_X12_of_72, E_X12_of_73, E_X12_of_76, E_X12_of_77, E_X12_of_78, E_X12_of_79, E_X12_of_80, E_X12_of_83, E_X12_of_84, E_X12_of_85, E_X12_of_86, E_X12_of_87, E_X12_of_90, E_X12_of_91, E_X12_of_92, E_X12_of_93, E_X12_of_94, E_X12_of_95, E_X12_of_98, E_X12_of_99, E_X12_of_102, List.map_nil, List.map_cons, List.sum_cons, List.sum_nil, gcat_i, gcat_r, gcat_l, Nat.reduceAdd, Nat.reduceLeDiff, Nat.zero_le, Option.toList, List.cons_append, List.nil_append, gnk_i, gnk_r, gnk_n, gi_1, Nat.reduceLT, if_true, if_false]
      exact hq s' (mA_G (mG_fr hfr)) (mYY_of h (mY_fr h.1 hfr))
    | false =>
      rw [b2, if_pos rfl] at hq
      rw [b2] at c1
      by_cases y0 : y = 0
      · rw [if_pos y0] at hq
        rw [y0] at c1
        simp only [E_X12_of_0, E_X12_of_1, E_X12_of_2, E_X12_of_5, E_X12_of_8, E_X12_of_11, E_X12_of_12, E_X12_of_13, E_X12_of_14, E_X12_of_16, E_X12_of_18, E_X12_of_19, E_X12_of_22, E_X12_of_23, E_X12_of_26, E_X12_of_29, E_X12_of_30, E_X12_of_31, E_X12_of_32, E_X12_of_34, E_X12_of_35, E_X12_of_38, E_X12_of_39, E_X12_of_40, E_X12_of_72, E_X12_of_73, E_X12_of_76, E_X12_of_77, E_X12_of_78, E_X12_of_79, E_X12_of_80, E_X12_of_83, E_X12_of_84, E_X12_of_85, E_X12_of_86, E_X12_of_87, E_X12_of_90, E_X12_of_91, E_X12_of_92, E_X12_of_93, E_X12_of_94, E_X12_of_95, E_X12_of_98, E_X12_of_99, E_X12_of_102, rk_137, rc_137, rg_137_1, rg_137_4, ra_139, rv_139, i1, i2, a2, h9, hic, hin, c1, b1, y0, gb_0, gb_1, g1_0, List.map_nil, List.map_cons, List.sum_cons, List.sum_nil, gcat_i, gcat_r, gcat_l, Nat.reduceAdd, Nat.reduceLeDiff, Nat.zero_le, Option.toList, List.cons_append, List.nil_append, gnk_i, gnk_r, gnk_n, gi_1, Nat.reduceLT, if_true, if_false]
        exact hq s mA_refl h
      rw [if_neg y0] at hq
      by_cases y1 : y = 1
      · rw [if_pos y1] at hq
        rw [y1] at c1
        simp only [E_X12_of_0, E_X12_of_1, E_X12_of_2, E_X12_of_5, E_X12_of_8, E_X12_of_11, E_X12_of_12, E_X12_of_13, E_X12_of_14, E_X12_of_16, E_X12_of_18, E_X12_of_19, E_X12_of_22, E_X12_of_23, E_X12_of_26, E_X12_of_29, E_X12_of_30, E_X12_of_31, E_X12_of_32, E_X12_of_34, E_X12_of_35, E_X12_of_38, E_X12_of_39, E_X12_of_40, E_X12_of_72, E_X12_of_73, E_X12_of_76, E_X12_of_77, E_X12_of_78, E_X12_of_79, E_X12_of_80, E_X12_of_83, E_X12_of_84, E_X12_of_85, E_X12_of_86, E_X12_of_87, E_X12_of_90, E_X12_of_91, E_X12_of_92, E_X12_of_93, E_X12_of_94, E_X12_of_95, E_X12_of_98, E_X12_of_99, E_X12_of_102, rk_137, rc_137, rg_137_1, rg_137_5, ra_140, rv_140, i1, i2, a3, h9, hic, hin, c1, b1, y1, gb_0, gb_1, g1_0, List.map_nil, List.map_cons, List.sum_cons, List.sum_nil, gcat_i, gcat_r, gcat_l, Nat.reduceAdd, Nat.reduceLeDiff, Nat.zero_le, Option.toList, List.cons_append, List.nil_append, gnk_i, gnk_r, gnk_n, gi_1, Nat.reduceLT, if_true, if_false]
        exact hq s mA_refl h
      rw [if_neg y1] at hq
      by_cases y2 : y = 2
      · rw [if_pos y2] at hq
        rw [y2] at c1
        have e20 : ((2 : Int32) = 0) = False := eq_false (by decide)
        have e21 : ((2 : Int32) = 1) = False := eq_false (by decide)
        simp only [E_X12_of_0, E_X12_of_1, E_X12_of_2, E_X12_of_5, E_X12_of_8, E_X12_of_11, E_X12_of_12, E_X12_of_13, E_X12_of_14, E_X12_of_16, E_X12_of_18, E_X12_of_19, E_X12_of_22, E_X12_of_23, E_X12_of_26, E_X12_of_29, E_X12_of_30, E_X12_of_31, E_X12_of_32, E_X12_of_34, E_X12_of_35, E_X12_of_38, E_X12_of_39, E_X12_of_40, E_X12_of_72, E_X12_of_73, E_X12_of_76, E_X12_of_77, E_X12_of_78, E_X12_of_79, E_X12_of_80, E_X12_of_83, E_X12_of_84, E_X12_of_85, E_X12_of_86, E_X12_of_87, E_X12_of_90, E_X12_of_91, E_X12_of_92, E_X12_of_93, E_X12_of_94, E_X12_of_95, E_X12_of_98, E_X12_of_99, E_X12_of_102, rk_137, rc_137, rg_137_1, rg_137_6, ra_141, rv_141, i1, i2, a4, h9, hic, hin, c1, b1, y2, e20, e21, gb_0, gb_1, g1_0, List.map_nil, List.map_cons, List.sum_cons, List.sum_nil, gcat_i, gcat_r, gcat_l, Nat.reduceAdd, Nat.reduceLeDiff, Nat.zero_le, Option.toList, List.cons_append, List.nil_append, gnk_i, gnk_r, gnk_n, gi_1, Nat.reduceLT, if_true, if_false]
        exact hq s mA_refl h
      rw [if_neg y2] at hq
      by_cases y3 : y = 3
      · rw [if_pos y3] at hq
        rw [y3] at c1
        have e20 : ((3 : Int32) = 0) = False := eq_false (by decide)
        have e21 : ((3 : Int32) = 1) = False := eq_false (by decide)
        have e22 : ((3 : Int32) = 2) = False := eq_false (by decide)
        have hu := fun (Q : Option Value → gc_M → Prop) => m_hung (w := w) (d := d + 3) (Q := Q) h.1.1 hk hc
        simp only [E_X12_of_0, E_X12_of_1, E_X12_of_2, E_X12_of_5, E_X12_of_8, E_X12_of_11, E_X12_of_12, E_X12_of_13, E_X12_of_14, E_X12_of_16, E_X12_of_18, E_X12_of_19, E_X12_of_22, E_X12_of_23, E_X12_of_26, E_X12_of_29, E_X12_of_30, E_X12_of_31, E_X12_of_32, E_X12_of_34, E_X12_of_35, E_X12_of_38, E_X12_of_39, E_X12_of_40, E_X12_of_72, E_X12_of_73, E_X12_of_76, E_X12_of_77, E_X12_of_78, E_X12_of_79, E_X12_of_80, E_X12_of_83, E_X12_of_84, E_X12_of_85, E_X12_of_86, E_X12_of_87, E_X12_of_90, E_X12_of_91, E_X12_of_92, E_X12_of_93, E_X12_of_94, E_X12_of_95, E_X12_of_98, E_X12_of_99, E_X12_of_102, rk_137, rc_137, rg_137_1, h9, hic, hin, hu, c1, b1, y3, e20, e21, e22, gb_0, gb_1, g1_0, List.map_nil, List.map_cons, List.sum_cons, List.sum_nil, gcat_i, gcat_r, gcat_l, Nat.reduceAdd, Nat.reduceLeDiff, Nat.zero_le, Option.toList, List.cons_append, List.nil_append, gnk_i, gnk_r, gnk_n, gi_1, Nat.reduceLT, if_true, if_false]
        exact hq s mA_refl h
      rw [if_neg y3] at hq
      simp only [E_X12_of_0, E_X12_of_1, E_X12_of_2, E_X12_of_5, E_X12_of_8, E_X12_of_11, E_X12_of_12, E_X12_of_13, E_X12_of_14, E_X12_of_16, E_X12_of_18, E_X12_of_19, E_X12_of_22, E_X12_of_23, E_X12_of_26, E_X12_of_29, E_X12_of_30, E_X12_of_31, E_X12_of_32, E_X12_of_34, E_X12_of_35, E_X12_of_38, E_X12_of_39, E_X12_of_40, E_X12_of_72, E_X12_of_73, E_X12_of_76, E_X12_of_77, E_X12_of_78, E_X12_of_79, E_X12_of_80, E_X12_of_83, E_X12_of_84, E_X12_of_85, E_X12_of_86, E_X12_of_87, E_X12_of_90, E_X12_of_91, E_X12_of_92, E_X12_of_93, E_X12_of_94, E_X12_of_95, E_X12_of_98, E_X12_of_99, E_X12_of_102, rk_137, rc_137, rg_137_1, h9, hic, hin, c1, b1, y0, y1, y2, y3, gb_0, gb_1, g1_0, List.map_nil, List.map_cons, List.sum_cons, List.sum_nil, gcat_i, gcat_r, gcat_l, Nat.reduceAdd, Nat.reduceLeDiff, Nat.zero_le, Option.toList, List.cons_append, List.nil_append, gnk_i, gnk_r, gnk_n, gi_1, Nat.reduceLT, if_true, if_false]
      exact hq s mA_refl h
theorem i_of (h : gInv s) : gBoth w 67 150 [some (.ref 0), some (.int x), some (.int y), none] [some (.ref 137), some (.int x), some (.int y)] s := by
  obtain ⟨φ, p, cu, cs, f, l1, l2, l3, h⟩ := gInv_I h
  refine c_of (gI_R h) (gI_ok h) (fun s1 hU => ⟨s1, rfl, ?_⟩)
  have h' := gI_U h hU
  exact m_of (gI_YY h') (fun s2 hA hY => ⟨s2, rfl, rfl, ⟨_, rfl⟩, gI_B h' (mB_A hA) hY⟩)
/-- load -/
def a_load (p : gA) (l : List gTr) (x y : Int32) : Int32 := if gA_of p.1.2.2 x = false then -1 else if y = 0 then p.2.1 12 x.toNatClampNeg else if y = 1 then mS (p.2.1 13 x.toNatClampNeg) else if y = 2 then p.2.1 14 x.toNatClampNeg else if y = 3 then p.2.1 15 x.toNatClampNeg else if y = 4 then p.2.1 16 x.toNatClampNeg else if y = 5 then a_dw p x.toNatClampNeg else if y = 6 then a_sent p x.toNatClampNeg else if y = 7 then a_griefs p l x.toNatClampNeg true else if y = 8 then a_griefs p l x.toNatClampNeg false else -1
theorem i32_lits : ((2 : Int32) = 0) = False ∧ ((2 : Int32) = 1) = False ∧ ((3 : Int32) = 0) = False ∧ ((3 : Int32) = 1) = False ∧ ((3 : Int32) = 2) = False ∧ ((4 : Int32) = 0) = False ∧ ((4 : Int32) = 1) = False ∧ ((4 : Int32) = 2) = False ∧ ((4 : Int32) = 3) = False := by
  refine ⟨eq_false (by decide), eq_false (by decide), eq_false (by decide), eq_false (by decide), eq_false (by decide), eq_false (by decide), eq_false (by decide), eq_false (by decide), eq_false (by decide)⟩
theorem c_load {l : List gTr} (hR : gR s 83 f m p) (hk : gA_ok p) (hh : p.1.1 ≤ 9999) (hl : gSn_ok p.1.2.2 l) (hS : cSn s l) (hq : ∀ s', cT s s' → Q (some (.int (a_load p l x y))) (gm_m s')) : gc_X w (d + 7) 69 0 [some (.ref 0), some (.int x), some (.int y)] [] (gm_m s) Q := by
  have k8 := hk.2.1
  have hht := fun (z : Int32) (Q : Option Value → gc_M → Prop) => gy_hasThing (w := w) (d := d + 6) (x := z) (Q := Q) hR
  unfold a_load at hq
  cases b1 : gA_of p.1.2.2 x with
  | false =>
    rw [b1, if_pos rfl] at hq
    simp only [E_X11_load_0, E_X11_load_1, E_X11_load_4, E_X11_load_5, E_X11_load_8, E_X11_load_11, E_X11_load_12, E_X11_load_13, E_X11_load_14, E_X11_load_64, E_X11_load_65, E_X11_load_68, E_X11_load_71, E_X11_load_72, E_X11_load_73, E_X11_load_74, E_X11_load_75, E_X11_load_78, E_X11_load_81, E_X11_load_82, E_X11_load_83, E_X11_load_86, E_X11_load_87, E_X11_load_88, E_X11_load_91, E_X11_load_94, E_X11_load_95, E_X11_load_96, E_X11_load_97, E_X11_load_98, E_X11_load_101, E_X11_load_104, E_X11_load_105, E_X11_load_106, E_X11_load_107, E_X11_load_108, E_X11_load_111, E_X11_load_114, E_X11_load_115, E_X11_load_116, E_X11_load_117, E_X11_load_118, E_X11_load_121, E_X11_load_122, E_X11_load_125, E_X11_load_128, E_X11_load_129, E_X11_load_130, E_X11_load_133, E_X11_load_134, E_X11_load_135, E_X11_load_136, E_X11_load_139, E_X11_load_140, E_X11_load_141, E_X11_load_142, E_X11_load_143, E_X11_load_144, E_X11_load_147, E_X11_load_148, E_X11_load_149, E_X11_load_150, E_X11_load_151, E_X11_load_152, E_X11_load_155, E_X11_load_156, E_X11_load_157, rk_0, rc_83, rg_0_0, hht, b1, gb_0, List.map_nil, List.map_cons, List.sum_cons, List.sum_nil, gcat_i, gcat_r, gcat_l, Nat.reduceAdd, Nat.reduceLeDiff, Nat.zero_le, Option.toList, List.cons_append, List.nil_append, gnk_i, gnk_r, gnk_n, gi_1, Nat.reduceLT, if_true, if_false]
    exact hq s cT_refl
  | true =>
    rw [b1, if_neg (by decide)] at hq
    obtain ⟨t, ht, e⟩ := gA_of_ex b1 (by omega)
    subst e
    have i1 : vp_in (nI t) 8 := vp_in_nI (by omega) (by omega)
    have i2 : (nI t).toNatClampNeg = t := nI_clamp (by omega)
    rw [i2] at hq
    have hA := fun o ho1 ho2 => hR.2.2.2.2.2.2.2.1 o t (Or.inr (Or.inr (Or.inr ⟨ho1, ho2, ht⟩)))
    have a12 : s.1 95 t = p.2.1 12 t := hA 12 (by omega) (by omega)
    have a13 : s.1 96 t = p.2.1 13 t := hA 13 (by omega) (by omega)
    have a14 : s.1 97 t = p.2.1 14 t := hA 14 (by omega) (by omega)
    have a15 : s.1 98 t = p.2.1 15 t := hA 15 (by omega) (by omega)
    have a16 : s.1 99 t = p.2.1 16 t := hA 16 (by omega) (by omega)
    by_cases y0 : y = 0
    · rw [if_pos y0] at hq
      simp (decide := true) only [E_X11_load_0, E_X11_load_1, E_X11_load_4, E_X11_load_5, E_X11_load_8, E_X11_load_11, E_X11_load_12, E_X11_load_13, E_X11_load_14, E_X11_load_64, E_X11_load_65, E_X11_load_68, E_X11_load_71, E_X11_load_72, E_X11_load_73, E_X11_load_74, E_X11_load_75, E_X11_load_78, E_X11_load_81, E_X11_load_82, E_X11_load_83, E_X11_load_86, E_X11_load_87, E_X11_load_88, E_X11_load_91, E_X11_load_94, E_X11_load_95, E_X11_load_96, E_X11_load_97, E_X11_load_98, E_X11_load_101, E_X11_load_104, E_X11_load_105, E_X11_load_106, E_X11_load_107, E_X11_load_108, E_X11_load_111, E_X11_load_114, E_X11_load_115, E_X11_load_116, E_X11_load_117, E_X11_load_118, E_X11_load_121, E_X11_load_122, E_X11_load_125, E_X11_load_128, E_X11_load_129, E_X11_load_130, E_X11_load_133, E_X11_load_134, E_X11_load_135, E_X11_load_136, E_X11_load_139, E_X11_load_140, E_X11_load_141, E_X11_load_142, E_X11_load_143, E_X11_load_144, E_X11_load_147, E_X11_load_148, E_X11_load_149, E_X11_load_150, E_X11_load_151, E_X11_load_152, E_X11_load_155, E_X11_load_156, E_X11_load_157, rk_0, rk_83, rc_83, rg_0_0, rg_83_10, ra_95, rv_95, i1, i2, a12, hht, b1, y0, gb_1, List.map_nil, List.map_cons, List.sum_cons, List.sum_nil, gcat_i, gcat_r, gcat_l, Nat.reduceAdd, Nat.reduceLeDiff, Nat.zero_le, Option.toList, List.cons_append, List.nil_append, gnk_i, gnk_r, gnk_n, gi_1, Nat.reduceLT, if_true, if_false]
      exact hq s cT_refl
    rw [if_neg y0] at hq
    by_cases y1 : y = 1
    · rw [if_pos y1] at hq
      simp (decide := true) only [E_X11_load_0, E_X11_load_1, E_X11_load_4, E_X11_load_5, E_X11_load_8, E_X11_load_11, E_X11_load_12, E_X11_load_13, E_X11_load_14, E_X11_load_64, E_X11_load_65, E_X11_load_68, E_X11_load_71, E_X11_load_72, E_X11_load_73, E_X11_load_74, E_X11_load_75, E_X11_load_78, E_X11_load_81, E_X11_load_82, E_X11_load_83, E_X11_load_86, E_X11_load_87, E_X11_load_88, E_X11_load_91, E_X11_load_94, E_X11_load_95, E_X11_load_96, E_X11_load_97, E_X11_load_98, E_X11_load_101, E_X11_load_104, E_X11_load_105, E_X11_load_106, E_X11_load_107, E_X11_load_108, E_X11_load_111, E_X11_load_114, E_X11_load_115, E_X11_load_116, E_X11_load_117, E_X11_load_118, E_X11_load_121, E_X11_load_122, E_X11_load_125, E_X11_load_128, E_X11_load_129, E_X11_load_130, E_X11_load_133, E_X11_load_134, E_X11_load_135, E_X11_load_136, E_X11_load_139, E_X11_load_140, E_X11_load_141, E_X11_load_142, E_X11_load_143, E_X11_load_144, E_X11_load_147, E_X11_load_148, E_X11_load_149, E_X11_load_150, E_X11_load_151, E_X11_load_152, E_X11_load_155, E_X11_load_156, E_X11_load_157, rk_0, rk_83, rc_83, rg_0_0, rg_83_11, ra_96, rv_96, i1, i2, a13, hht, c_orNot, b1, y1, gb_1, List.map_nil, List.map_cons, List.sum_cons, List.sum_nil, gcat_i, gcat_r, gcat_l, Nat.reduceAdd, Nat.reduceLeDiff, Nat.zero_le, Option.toList, List.cons_append, List.nil_append, gnk_i, gnk_r, gnk_n, gi_1, Nat.reduceLT, if_true, if_false]
      exact hq s cT_refl
    rw [if_neg y1] at hq
    by_cases y2 : y = 2
    · rw [if_pos y2] at hq
      simp (decide := true) only [E_X11_load_0, E_X11_load_1, E_X11_load_4, E_X11_load_5, E_X11_load_8, E_X11_load_11, E_X11_load_12, E_X11_load_13, E_X11_load_14, E_X11_load_64, E_X11_load_65, E_X11_load_68, E_X11_load_71, E_X11_load_72, E_X11_load_73, E_X11_load_74, E_X11_load_75, E_X11_load_78, E_X11_load_81, E_X11_load_82, E_X11_load_83, E_X11_load_86, E_X11_load_87, E_X11_load_88, E_X11_load_91, E_X11_load_94, E_X11_load_95, E_X11_load_96, E_X11_load_97, E_X11_load_98, E_X11_load_101, E_X11_load_104, E_X11_load_105, E_X11_load_106, E_X11_load_107, E_X11_load_108, E_X11_load_111, E_X11_load_114, E_X11_load_115, E_X11_load_116, E_X11_load_117, E_X11_load_118, E_X11_load_121, E_X11_load_122, E_X11_load_125, E_X11_load_128, E_X11_load_129, E_X11_load_130, E_X11_load_133, E_X11_load_134, E_X11_load_135, E_X11_load_136, E_X11_load_139, E_X11_load_140, E_X11_load_141, E_X11_load_142, E_X11_load_143, E_X11_load_144, E_X11_load_147, E_X11_load_148, E_X11_load_149, E_X11_load_150, E_X11_load_151, E_X11_load_152, E_X11_load_155, E_X11_load_156, E_X11_load_157, rk_0, rk_83, rc_83, rg_0_0, rg_83_12, ra_97, rv_97, i1, i2, a14, hht, b1, y2, gb_1, List.map_nil, List.map_cons, List.sum_cons, List.sum_nil, gcat_i, gcat_r, gcat_l, Nat.reduceAdd, Nat.reduceLeDiff, Nat.zero_le, Option.toList, List.cons_append, List.nil_append, gnk_i, gnk_r, gnk_n, gi_1, Nat.reduceLT, if_true, if_false]
      exact hq s cT_refl
    rw [if_neg y2] at hq
    by_cases y3 : y = 3
    · rw [if_pos y3] at hq
      simp (decide := true) only [E_X11_load_0, E_X11_load_1, E_X11_load_4, E_X11_load_5, E_X11_load_8, E_X11_load_11, E_X11_load_12, E_X11_load_13, E_X11_load_14, E_X11_load_64, E_X11_load_65, E_X11_load_68, E_X11_load_71, E_X11_load_72, E_X11_load_73, E_X11_load_74, E_X11_load_75, E_X11_load_78, E_X11_load_81, E_X11_load_82, E_X11_load_83, E_X11_load_86, E_X11_load_87, E_X11_load_88, E_X11_load_91, E_X11_load_94, E_X11_load_95, E_X11_load_96, E_X11_load_97, E_X11_load_98, E_X11_load_101, E_X11_load_104, E_X11_load_105, E_X11_load_106, E_X11_load_107, E_X11_load_108, E_X11_load_111, E_X11_load_114, E_X11_load_115, E_X11_load_116, E_X11_load_117, E_X11_load_118, E_X11_load_121, E_X11_load_122, E_X11_load_125, E_X11_load_128, E_X11_load_129, E_X11_load_130, E_X11_load_133, E_X11_load_134, E_X11_load_135, E_X11_load_136, E_X11_load_139, E_X11_load_140, E_X11_load_141, E_X11_load_142, E_X11_load_143, E_X11_load_144, E_X11_load_147, E_X11_load_148, E_X11_load_149, E_X11_load_150, E_X11_load_151, E_X11_load_152, E_X11_load_155, E_X11_load_156, E_X11_load_157, rk_0, rk_83, rc_83, rg_0_0, rg_83_13, ra_98, rv_98, i1, i2, a15, hht, b1, y3, gb_1, List.map_nil, List.map_cons, List.sum_cons, List.sum_nil, gcat_i, gcat_r, gcat_l, Nat.reduceAdd, Nat.reduceLeDiff, Nat.zero_le, Option.toList, List.cons_append, List.nil_append, gnk_i, gnk_r, gnk_n, gi_1, Nat.reduceLT, if_true, if_false]
      exact hq s cT_refl
    rw [if_neg y3] at hq
    by_cases y4 : y = 4
    · rw [if_pos y4] at hq
      simp (decide := true) only [E_X11_load_0, E_X11_load_1, E_X11_load_4, E_X11_load_5, E_X11_load_8, E_X11_load_11, E_X11_load_12, E_X11_load_13, E_X11_load_14, E_X11_load_64, E_X11_load_65, E_X11_load_68, E_X11_load_71, E_X11_load_72, E_X11_load_73, E_X11_load_74, E_X11_load_75, E_X11_load_78, E_X11_load_81, E_X11_load_82, E_X11_load_83, E_X11_load_86, E_X11_load_87, E_X11_load_88, E_X11_load_91, E_X11_load_94, E_X11_load_95, E_X11_load_96, E_X11_load_97, E_X11_load_98, E_X11_load_101, E_X11_load_104, E_X11_load_105, E_X11_load_106, E_X11_load_107, E_X11_load_108, E_X11_load_111, E_X11_load_114, E_X11_load_115, E_X11_load_116, E_X11_load_117, E_X11_load_118, E_X11_load_121, E_X11_load_122, E_X11_load_125, E_X11_load_128, E_X11_load_129, E_X11_load_130, E_X11_load_133, E_X11_load_134, E_X11_load_135, E_X11_load_136, E_X11_load_139, E_X11_load_140, E_X11_load_141, E_X11_load_142, E_X11_load_143, E_X11_load_144, E_X11_load_147, E_X11_load_148, E_X11_load_149, E_X11_load_150, E_X11_load_151, E_X11_load_152, E_X11_load_155, E_X11_load_156, E_X11_load_157, rk_0, rk_83, rc_83, rg_0_0, rg_83_14, ra_99, rv_99, i1, i2, a16, hht, b1, y4, gb_1, List.map_nil, List.map_cons, List.sum_cons, List.sum_nil, gcat_i, gcat_r, gcat_l, Nat.reduceAdd, Nat.reduceLeDiff, Nat.zero_le, Option.toList, List.cons_append, List.nil_append, gnk_i, gnk_r, gnk_n, gi_1, Nat.reduceLT, if_true, if_false]
      exact hq s cT_refl
    rw [if_neg y4] at hq
    by_cases y5 : y = 5
    · rw [if_pos y5] at hq
      simp (decide := true) only [E_X11_load_0, E_X11_load_1, E_X11_load_4, E_X11_load_5, E_X11_load_8, E_X11_load_11, E_X11_load_12, E_X11_load_13, E_X11_load_14, E_X11_load_64, E_X11_load_65, E_X11_load_68, E_X11_load_71, E_X11_load_72, E_X11_load_73, E_X11_load_74, E_X11_load_75, E_X11_load_78, E_X11_load_81, E_X11_load_82, E_X11_load_83, E_X11_load_86, E_X11_load_87, E_X11_load_88, E_X11_load_91, E_X11_load_94, E_X11_load_95, E_X11_load_96, E_X11_load_97, E_X11_load_98, E_X11_load_101, E_X11_load_104, E_X11_load_105, E_X11_load_106, E_X11_load_107, E_X11_load_108, E_X11_load_111, E_X11_load_114, E_X11_load_115, E_X11_load_116, E_X11_load_117, E_X11_load_118, E_X11_load_121, E_X11_load_122, E_X11_load_125, E_X11_load_128, E_X11_load_129, E_X11_load_130, E_X11_load_133, E_X11_load_134, E_X11_load_135, E_X11_load_136, E_X11_load_139, E_X11_load_140, E_X11_load_141, E_X11_load_142, E_X11_load_143, E_X11_load_144, E_X11_load_147, E_X11_load_148, E_X11_load_149, E_X11_load_150, E_X11_load_151, E_X11_load_152, E_X11_load_155, E_X11_load_156, E_X11_load_157, rk_0, rc_83, rc_101, rg_0_0, rg_0_1, hht, b1, y5, gb_1, List.map_nil, List.map_cons, List.sum_cons, List.sum_nil, gcat_i, gcat_r, gcat_l, Nat.reduceAdd, Nat.reduceLeDiff, Nat.zero_le, Option.toList, List.cons_append, List.nil_append, gnk_i, gnk_r, gnk_n, gi_1, Nat.reduceLT, if_true, if_false]
      refine c_copy hR hk (fun s1 hT1 hR1 hR1' => ?_)
      simp (decide := true) only [E_X11_load_0, E_X11_load_1, E_X11_load_4, E_X11_load_5, E_X11_load_8, E_X11_load_11, E_X11_load_12, E_X11_load_13, E_X11_load_14, E_X11_load_64, E_X11_load_65, E_X11_load_68, E_X11_load_71, E_X11_load_72, E_X11_load_73, E_X11_load_74, E_X11_load_75, E_X11_load_78, E_X11_load_81, E_X11_load_82, E_X11_load_83, E_X11_load_86, E_X11_load_87, E_X11_load_88, E_X11_load_91, E_X11_load_94, E_X11_load_95, E_X11_load_96, E_X11_load_97, E_X11_load_98, E_X11_load_101, E_X11_load_104, E_X11_load_105, E_X11_load_106, E_X11_load_107, E_X11_load_108, E_X11_load_111, E_X11_load_114, E_X11_load_115, E_X11_load_116, E_X11_load_117, E_X11_load_118, E_X11_load_121, E_X11_load_122, E_X11_load_125, E_X11_load_128, E_X11_load_129, E_X11_load_130, E_X11_load_133, E_X11_load_134, E_X11_load_135, E_X11_load_136, E_X11_load_139, E_X11_load_140, E_X11_load_141, E_X11_load_142, E_X11_load_143, E_X11_load_144, E_X11_load_147, E_X11_load_148, E_X11_load_149, E_X11_load_150, E_X11_load_151, E_X11_load_152, E_X11_load_155, E_X11_load_156, E_X11_load_157, rc_0, List.map_nil, List.map_cons, List.sum_cons, List.sum_nil, gcat_i, gcat_r, gcat_l, Nat.reduceAdd, Nat.reduceLeDiff, Nat.zero_le, Option.toList, List.cons_append, List.nil_append, gnk_i, gnk_r, gnk_n, gi_1, Nat.reduceLT, if_true, if_false]
      refine c_down hR1' hk hh ht hT1 (fun s2 hT2 => ?_)
      simp (decide := true) only [E_X11_load_0, E_X11_load_1, E_X11_load_4, E_X11_load_5, E_X11_load_8, E_X11_load_11, E_X11_load_12, E_X11_load_13, E_X11_load_14, E_X11_load_64, E_X11_load_65, E_X11_load_68, E_X11_load_71, E_X11_load_72, E_X11_load_73, E_X11_load_74, E_X11_load_75, E_X11_load_78, E_X11_load_81, E_X11_load_82, E_X11_load_83, E_X11_load_86, E_X11_load_87, E_X11_load_88, E_X11_load_91, E_X11_load_94, E_X11_load_95, E_X11_load_96, E_X11_load_97, E_X11_load_98, E_X11_load_101, E_X11_load_104, E_X11_load_105, E_X11_load_106, E_X11_load_107, E_X11_load_108, E_X11_load_111, E_X11_load_114, E_X11_load_115, E_X11_load_116, E_X11_load_117, E_X11_load_118, E_X11_load_121, E_X11_load_122, E_X11_load_125, E_X11_load_128, E_X11_load_129, E_X11_load_130, E_X11_load_133, E_X11_load_134, E_X11_load_135, E_X11_load_136, E_X11_load_139, E_X11_load_140, E_X11_load_141, E_X11_load_142, E_X11_load_143, E_X11_load_144, E_X11_load_147, E_X11_load_148, E_X11_load_149, E_X11_load_150, E_X11_load_151, E_X11_load_152, E_X11_load_155, E_X11_load_156, E_X11_load_157, List.map_nil, List.map_cons, List.sum_cons, List.sum_nil, gcat_i, gcat_r, gcat_l, Nat.reduceAdd, Nat.reduceLeDiff, Nat.zero_le, Option.toList, List.cons_append, List.nil_append, gnk_i, gnk_r, gnk_n, gi_1, Nat.reduceLT, if_true, if_false]
      exact hq s2 hT2
    rw [if_neg y5] at hq
    by_cases y6 : y = 6
    · rw [if_pos y6] at hq
      simp (decide := true) only [E_X11_load_0, E_X11_load_1, E_X11_load_4, E_X11_load_5, E_X11_load_8, E_X11_load_11, E_X11_load_12, E_X11_load_13, E_X11_load_14, E_X11_load_64, E_X11_load_65, E_X11_load_68, E_X11_load_71, E_X11_load_72, E_X11_load_73, E_X11_load_74, E_X11_load_75, E_X11_load_78, E_X11_load_81, E_X11_load_82, E_X11_load_83, E_X11_load_86, E_X11_load_87, E_X11_load_88, E_X11_load_91, E_X11_load_94, E_X11_load_95, E_X11_load_96, E_X11_load_97, E_X11_load_98, E_X11_load_101, E_X11_load_104, E_X11_load_105, E_X11_load_106, E_X11_load_107, E_X11_load_108, E_X11_load_111, E_X11_load_114, E_X11_load_115, E_X11_load_116, E_X11_load_117, E_X11_load_118, E_X11_load_121, E_X11_load_122, E_X11_load_125, E_X11_load_128, E_X11_load_129, E_X11_load_130, E_X11_load_133, E_X11_load_134, E_X11_load_135, E_X11_load_136, E_X11_load_139, E_X11_load_140, E_X11_load_141, E_X11_load_142, E_X11_load_143, E_X11_load_144, E_X11_load_147, E_X11_load_148, E_X11_load_149, E_X11_load_150, E_X11_load_151, E_X11_load_152, E_X11_load_155, E_X11_load_156, E_X11_load_157, rk_0, rc_0, rc_83, rg_0_0, hht, b1, y6, gb_1, List.map_nil, List.map_cons, List.sum_cons, List.sum_nil, gcat_i, gcat_r, gcat_l, Nat.reduceAdd, Nat.reduceLeDiff, Nat.zero_le, Option.toList, List.cons_append, List.nil_append, gnk_i, gnk_r, gnk_n, gi_1, Nat.reduceLT, if_true, if_false]
      refine c_soonest hR hk hh ht (fun s2 hT2 => ?_)
      simp (decide := true) only [E_X11_load_0, E_X11_load_1, E_X11_load_4, E_X11_load_5, E_X11_load_8, E_X11_load_11, E_X11_load_12, E_X11_load_13, E_X11_load_14, E_X11_load_64, E_X11_load_65, E_X11_load_68, E_X11_load_71, E_X11_load_72, E_X11_load_73, E_X11_load_74, E_X11_load_75, E_X11_load_78, E_X11_load_81, E_X11_load_82, E_X11_load_83, E_X11_load_86, E_X11_load_87, E_X11_load_88, E_X11_load_91, E_X11_load_94, E_X11_load_95, E_X11_load_96, E_X11_load_97, E_X11_load_98, E_X11_load_101, E_X11_load_104, E_X11_load_105, E_X11_load_106, E_X11_load_107, E_X11_load_108, E_X11_load_111, E_X11_load_114, E_X11_load_115, E_X11_load_116, E_X11_load_117, E_X11_load_118, E_X11_load_121, E_X11_load_122, E_X11_load_125, E_X11_load_128, E_X11_load_129, E_X11_load_130, E_X11_load_133, E_X11_load_134, E_X11_load_135, E_X11_load_136, E_X11_load_139, E_X11_load_140, E_X11_load_141, E_X11_load_142, E_X11_load_143, E_X11_load_144, E_X11_load_147, E_X11_load_148, E_X11_load_149, E_X11_load_150, E_X11_load_151, E_X11_load_152, E_X11_load_155, E_X11_load_156, E_X11_load_157, List.map_nil, List.map_cons, List.sum_cons, List.sum_nil, gcat_i, gcat_r, gcat_l, Nat.reduceAdd, Nat.reduceLeDiff, Nat.zero_le, Option.toList, List.cons_append, List.nil_append, gnk_i, gnk_r, gnk_n, gi_1, Nat.reduceLT, if_true, if_false]
      exact hq s2 hT2
    rw [if_neg y6] at hq
    by_cases y7 : y = 7
    · rw [if_pos y7] at hq
      simp (decide := true) only [E_X11_load_0, E_X11_load_1, E_X11_load_4, E_X11_load_5, E_X11_load_8, E_X11_load_11, E_X11_load_12, E_X11_load_13, E_X11_load_14, E_X11_load_64, E_X11_load_65, E_X11_load_68, E_X11_load_71, E_X11_load_72, E_X11_load_73, E_X11_load_74, E_X11_load_75, E_X11_load_78, E_X11_load_81, E_X11_load_82, E_X11_load_83, E_X11_load_86, E_X11_load_87, E_X11_load_88, E_X11_load_91, E_X11_load_94, E_X11_load_95, E_X11_load_96, E_X11_load_97, E_X11_load_98, E_X11_load_101, E_X11_load_104, E_X11_load_105, E_X11_load_106, E_X11_load_107, E_X11_load_108, E_X11_load_111, E_X11_load_114, E_X11_load_115, E_X11_load_116, E_X11_load_117, E_X11_load_118, E_X11_load_121, E_X11_load_122, E_X11_load_125, E_X11_load_128, E_X11_load_129, E_X11_load_130, E_X11_load_133, E_X11_load_134, E_X11_load_135, E_X11_load_136, E_X11_load_139, E_X11_load_140, E_X11_load_141, E_X11_load_142, E_X11_load_143, E_X11_load_144, E_X11_load_147, E_X11_load_148, E_X11_load_149, E_X11_load_150, E_X11_load_151, E_X11_load_152, E_X11_load_155, E_X11_load_156, E_X11_load_157, rk_0, rc_0, rc_83, rg_0_0, hht, b1, y7, gb_1, List.map_nil, List.map_cons, List.sum_cons, List.sum_nil, gcat_i, gcat_r, gcat_l, Nat.reduceAdd, Nat.reduceLeDiff, Nat.zero_le, Option.toList, List.cons_append, List.nil_append, gnk_i, gnk_r, gnk_n, gi_1, Nat.reduceLT, if_true, if_false]
      rw [show (0 : Int32) = gb_i false from rfl]
      refine c_griefs (b := false) ht hR hk hh hl hS (fun s2 hT2 => ?_)
      simp (decide := true) only [E_X11_load_0, E_X11_load_1, E_X11_load_4, E_X11_load_5, E_X11_load_8, E_X11_load_11, E_X11_load_12, E_X11_load_13, E_X11_load_14, E_X11_load_64, E_X11_load_65, E_X11_load_68, E_X11_load_71, E_X11_load_72, E_X11_load_73, E_X11_load_74, E_X11_load_75, E_X11_load_78, E_X11_load_81, E_X11_load_82, E_X11_load_83, E_X11_load_86, E_X11_load_87, E_X11_load_88, E_X11_load_91, E_X11_load_94, E_X11_load_95, E_X11_load_96, E_X11_load_97, E_X11_load_98, E_X11_load_101, E_X11_load_104, E_X11_load_105, E_X11_load_106, E_X11_load_107, E_X11_load_108, E_X11_load_111, E_X11_load_114, E_X11_load_115, E_X11_load_116, E_X11_load_117, E_X11_load_118, E_X11_load_121, E_X11_load_122, E_X11_load_125, E_X11_load_128, E_X11_load_129, E_X11_load_130, E_X11_load_133, E_X11_load_134, E_X11_load_135, E_X11_load_136, E_X11_load_139, E_X11_load_140, E_X11_load_141, E_X11_load_142, E_X11_load_143, E_X11_load_144, E_X11_load_147, E_X11_load_148, E_X11_load_149, E_X11_load_150, E_X11_load_151, E_X11_load_152, E_X11_load_155, E_X11_load_156, E_X11_load_157, List.map_nil, List.map_cons, List.sum_cons, List.sum_nil, gcat_i, gcat_r, gcat_l, Nat.reduceAdd, Nat.reduceLeDiff, Nat.zero_le, Option.toList, List.cons_append, List.nil_append, gnk_i, gnk_r, gnk_n, gi_1, Nat.reduceLT, if_true, if_false]
      exact hq s2 hT2
    rw [if_neg y7] at hq
    by_cases y8 : y = 8
    · rw [if_pos y8] at hq
      simp (decide := true) only [E_X11_load_0, E_X11_load_1, E_X11_load_4, E_X11_load_5, E_X11_load_8, E_X11_load_11, E_X11_load_12, E_X11_load_13, E_X11_load_14, E_X11_load_64, E_X11_load_65, E_X11_load_68, E_X11_load_71, E_X11_load_72, E_X11_load_73, E_X11_load_74, E_X11_load_75, E_X11_load_78, E_X11_load_81, E_X11_load_82, E_X11_load_83, E_X11_load_86, E_X11_load_87, E_X11_load_88, E_X11_load_91, E_X11_load_94, E_X11_load_95, E_X11_load_96, E_X11_load_97, E_X11_load_98, E_X11_load_101, E_X11_load_104, E_X11_load_105, E_X11_load_106, E_X11_load_107, E_X11_load_108, E_X11_load_111, E_X11_load_114, E_X11_load_115, E_X11_load_116, E_X11_load_117, E_X11_load_118, E_X11_load_121, E_X11_load_122, E_X11_load_125, E_X11_load_128, E_X11_load_129, E_X11_load_130, E_X11_load_133, E_X11_load_134, E_X11_load_135, E_X11_load_136, E_X11_load_139, E_X11_load_140, E_X11_load_141, E_X11_load_142, E_X11_load_143, E_X11_load_144, E_X11_load_147, E_X11_load_148, E_X11_load_149, E_X11_load_150, E_X11_load_151, E_X11_load_152, E_X11_load_155, E_X11_load_156, E_X11_load_157, rk_0, rc_0, rc_83, rg_0_0, hht, b1, y8, gb_1, List.map_nil, List.map_cons, List.sum_cons, List.sum_nil, gcat_i, gcat_r, gcat_l, Nat.reduceAdd, Nat.reduceLeDiff, Nat.zero_le, Option.toList, List.cons_append, List.nil_append, gnk_i, gnk_r, gnk_n, gi_1, Nat.reduceLT, if_true, if_false]
      rw [show (1 : Int32) = gb_i true from rfl]
      refine c_griefs (b := true) ht hR hk hh hl hS (fun s2 hT2 => ?_)
      simp (decide := true) only [E_X11_load_0, E_X11_load_1, E_X11_load_4, E_X11_load_5, E_X11_load_8, E_X11_load_11, E_X11_load_12, E_X11_load_13, E_X11_load_14, E_X11_load_64, E_X11_load_65, E_X11_load_68, E_X11_load_71, E_X11_load_72, E_X11_load_73, E_X11_load_74, E_X11_load_75, E_X11_load_78, E_X11_load_81, E_X11_load_82, E_X11_load_83, E_X11_load_86, E_X11_load_87, E_X11_load_88, E_X11_load_91, E_X11_load_94, E_X11_load_95, E_X11_load_96, E_X11_load_97, E_X11_load_98, E_X11_load_101, E_X11_load_104, E_X11_load_105, E_X11_load_106, E_X11_load_107, E_X11_load_108, E_X11_load_111, E_X11_load_114, E_X11_load_115, E_X11_load_116, E_X11_load_117, E_X11_load_118, E_X11_load_121, E_X11_load_122, E_X11_load_125, E_X11_load_128, E_X11_load_129, E_X11_load_130, E_X11_load_133, E_X11_load_134, E_X11_load_135, E_X11_load_136, E_X11_load_139, E_X11_load_140, E_X11_load_141, E_X11_load_142, E_X11_load_143, E_X11_load_144, E_X11_load_147, E_X11_load_148, E_X11_load_149, E_X11_load_150, E_X11_load_151, E_X11_load_152, E_X11_load_155, E_X11_load_156, E_X11_load_157, List.map_nil, List.map_cons, List.sum_cons, List.sum_nil, gcat_i, gcat_r, gcat_l, Nat.reduceAdd, Nat.reduceLeDiff, Nat.zero_le, Option.toList, List.cons_append, List.nil_append, gnk_i, gnk_r, gnk_n, gi_1, Nat.reduceLT, if_true, if_false]
      exact hq s2 hT2
    rw [if_neg y8] at hq
    simp (decide := true) only [E_X11_load_0, E_X11_load_1, E_X11_load_4, E_X11_load_5, E_X11_load_8, E_X11_load_11, E_X11_load_12, E_X11_load_13, E_X11_load_14, E_X11_load_64, E_X11_load_65, E_X11_load_68, E_X11_load_71, E_X11_load_72, E_X11_load_73, E_X11_load_74, E_X11_load_75, E_X11_load_78, E_X11_load_81, E_X11_load_82, E_X11_load_83, E_X11_load_86, E_X11_load_87, E_X11_load_88, E_X11_load_91, E_X11_load_94, E_X11_load_95, E_X11_load_96, E_X11_load_97, E_X11_load_98, E_X11_load_101, E_X11_load_104, E_X11_load_105, E_X11_load_106, E_X11_load_107, E_X11_load_108, E_X11_load_111, E_X11_load_114, E_X11_load_115, E_X11_load_116, E_X11_load_117, E_X11_load_118, E_X11_load_121, E_X11_load_122, E_X11_load_125, E_X11_load_128, E_X11_load_129, E_X11_load_130, E_X11_load_133, E_X11_load_134, E_X11_load_135, E_X11_load_136, E_X11_load_139, E_X11_load_140, E_X11_load_141, E_X11_load_142, E_X11_load_143, E_X11_load_144, E_X11_load_147, E_X11_load_148, E_X11_load_149, E_X11_load_150, E_X11_load_151, E_X11_load_152, E_X11_load_155, E_X11_load_156, E_X11_load_157, rk_0, rc_83, rg_0_0, hht, b1, y0, y1, y2, y3, y4, y5, y6, y7, y8, gb_1, List.map_nil, List.map_cons, List.sum_cons, List.sum_nil, gcat_i, gcat_r, gcat_l, Nat.reduceAdd, Nat.reduceLeDiff, Nat.zero_le, Option.toList, List.cons_append, List.nil_append, gnk_i, gnk_r, gnk_n, gi_1, Nat.reduceLT, if_true, if_false]
    exact hq s cT_refl
theorem m_load {l : List gTr} (hl : gSn_ok p.1.2.2 l) (hS : mSn s l) (h : mYY s cu cs p) (hq : ∀ s', mB s s' → mYY s' cu cs p → Q (some (.int (a_load p l x y))) (gm_m s')) : gc_X w (d + 9) 172 0 [some (.ref 137), some (.int x), some (.int y)] [] (gm_m s) Q := by
  have hk := h.2.1
  have k8 := hk.2.1
  have hic := fun (a : Int32) (Q : Option Value → gc_M → Prop) => m_isThing (w := w) (d := d + 7) (x := a) (Q := Q) h.1.1 hk
  unfold a_load at hq
  cases b1 : gA_of p.1.2.2 x with
  | false =>
    rw [b1, if_pos rfl] at hq
    simp only [E_X12_load_0, E_X12_load_1, E_X12_load_2, E_X12_load_5, E_X12_load_8, E_X12_load_9, E_X12_load_10, E_X12_load_11, E_X12_load_60, E_X12_load_61, E_X12_load_64, E_X12_load_65, E_X12_load_66, E_X12_load_67, E_X12_load_68, E_X12_load_71, E_X12_load_72, E_X12_load_73, E_X12_load_74, E_X12_load_75, E_X12_load_78, E_X12_load_79, E_X12_load_80, E_X12_load_81, E_X12_load_82, E_X12_load_85, E_X12_load_86, E_X12_load_87, E_X12_load_88, E_X12_load_89, E_X12_load_92, E_X12_load_93, E_X12_load_94, E_X12_load_95, E_X12_load_96, E_X12_load_97, E_X12_load_100, E_X12_load_101, E_X12_load_102, E_X12_load_103, E_X12_load_106, E_X12_load_107, E_X12_load_108, E_X12_load_109, E_X12_load_110, E_X12_load_113, E_X12_load_114, E_X12_load_115, E_X12_load_116, E_X12_load_117, E_X12_load_120, E_X12_load_121, E_X12_load_122, rc_137, hic, b1, gb_0, List.map_nil, List.map_cons, List.sum_cons, List.sum_nil, gcat_i, gcat_r, gcat_l, Nat.reduceAdd, Nat.reduceLeDiff, Nat.zero_le, Option.toList, List.cons_append, List.nil_append, gnk_i, gnk_r, gnk_n, gi_1, Nat.reduceLT, if_true, if_false]
    exact hq s mB_refl h
  | true =>
    rw [b1, if_neg (by decide)] at hq
    obtain ⟨t, ht, e⟩ := gA_of_ex b1 (by omega)
    subst e
    have i1 : vp_in (nI t) 8 := vp_in_nI (by omega) (by omega)
    have i2 : (nI t).toNatClampNeg = t := nI_clamp (by omega)
    rw [i2] at hq
    obtain ⟨a12, a13, a14, a15, a16⟩ := h.1.1.2.2.2.2.2 t ht
    by_cases y0 : y = 0
    · rw [if_pos y0] at hq
      simp (decide := true) only [E_X12_load_0, E_X12_load_1, E_X12_load_2, E_X12_load_5, E_X12_load_8, E_X12_load_9, E_X12_load_10, E_X12_load_11, E_X12_load_60, E_X12_load_61, E_X12_load_64, E_X12_load_65, E_X12_load_66, E_X12_load_67, E_X12_load_68, E_X12_load_71, E_X12_load_72, E_X12_load_73, E_X12_load_74, E_X12_load_75, E_X12_load_78, E_X12_load_79, E_X12_load_80, E_X12_load_81, E_X12_load_82, E_X12_load_85, E_X12_load_86, E_X12_load_87, E_X12_load_88, E_X12_load_89, E_X12_load_92, E_X12_load_93, E_X12_load_94, E_X12_load_95, E_X12_load_96, E_X12_load_97, E_X12_load_100, E_X12_load_101, E_X12_load_102, E_X12_load_103, E_X12_load_106, E_X12_load_107, E_X12_load_108, E_X12_load_109, E_X12_load_110, E_X12_load_113, E_X12_load_114, E_X12_load_115, E_X12_load_116, E_X12_load_117, E_X12_load_120, E_X12_load_121, E_X12_load_122, rk_137, rc_137, rg_137_8, ra_143, rv_143, i1, i2, a12, hic, b1, y0, gb_1, List.map_nil, List.map_cons, List.sum_cons, List.sum_nil, gcat_i, gcat_r, gcat_l, Nat.reduceAdd, Nat.reduceLeDiff, Nat.zero_le, Option.toList, List.cons_append, List.nil_append, gnk_i, gnk_r, gnk_n, gi_1, Nat.reduceLT, if_true, if_false]
      exact hq s mB_refl h
    rw [if_neg y0] at hq
    by_cases y1 : y = 1
    · rw [if_pos y1] at hq
      simp (decide := true) only [E_X12_load_0, E_X12_load_1, E_X12_load_2, E_X12_load_5, E_X12_load_8, E_X12_load_9, E_X12_load_10, E_X12_load_11, E_X12_load_60, E_X12_load_61, E_X12_load_64, E_X12_load_65, E_X12_load_66, E_X12_load_67, E_X12_load_68, E_X12_load_71, E_X12_load_72, E_X12_load_73, E_X12_load_74, E_X12_load_75, E_X12_load_78, E_X12_load_79, E_X12_load_80, E_X12_load_81, E_X12_load_82, E_X12_load_85, E_X12_load_86, E_X12_load_87, E_X12_load_88, E_X12_load_89, E_X12_load_92, E_X12_load_93, E_X12_load_94, E_X12_load_95, E_X12_load_96, E_X12_load_97, E_X12_load_100, E_X12_load_101, E_X12_load_102, E_X12_load_103, E_X12_load_106, E_X12_load_107, E_X12_load_108, E_X12_load_109, E_X12_load_110, E_X12_load_113, E_X12_load_114, E_X12_load_115, E_X12_load_116, E_X12_load_117, E_X12_load_120, E_X12_load_121, E_X12_load_122, rk_137, rc_137, rg_137_9, ra_144, rv_144, i1, i2, a13, hic, b1, y1, gb_1, List.map_nil, List.map_cons, List.sum_cons, List.sum_nil, gcat_i, gcat_r, gcat_l, Nat.reduceAdd, Nat.reduceLeDiff, Nat.zero_le, Option.toList, List.cons_append, List.nil_append, gnk_i, gnk_r, gnk_n, gi_1, Nat.reduceLT, if_true, if_false]
      exact hq s mB_refl h
    rw [if_neg y1] at hq
    by_cases y2 : y = 2
    · rw [if_pos y2] at hq
      simp (decide := true) only [E_X12_load_0, E_X12_load_1, E_X12_load_2, E_X12_load_5, E_X12_load_8, E_X12_load_9, E_X12_load_10, E_X12_load_11, E_X12_load_60, E_X12_load_61, E_X12_load_64, E_X12_load_65, E_X12_load_66, E_X12_load_67, E_X12_load_68, E_X12_load_71, E_X12_load_72, E_X12_load_73, E_X12_load_74, E_X12_load_75, E_X12_load_78, E_X12_load_79, E_X12_load_80, E_X12_load_81, E_X12_load_82, E_X12_load_85, E_X12_load_86, E_X12_load_87, E_X12_load_88, E_X12_load_89, E_X12_load_92, E_X12_load_93, E_X12_load_94, E_X12_load_95, E_X12_load_96, E_X12_load_97, E_X12_load_100, E_X12_load_101, E_X12_load_102, E_X12_load_103, E_X12_load_106, E_X12_load_107, E_X12_load_108, E_X12_load_109, E_X12_load_110, E_X12_load_113, E_X12_load_114, E_X12_load_115, E_X12_load_116, E_X12_load_117, E_X12_load_120, E_X12_load_121, E_X12_load_122, rk_137, rc_137, rg_137_10, ra_145, rv_145, i1, i2, a14, hic, b1, y2, gb_1, List.map_nil, List.map_cons, List.sum_cons, List.sum_nil, gcat_i, gcat_r, gcat_l, Nat.reduceAdd, Nat.reduceLeDiff, Nat.zero_le, Option.toList, List.cons_append, List.nil_append, gnk_i, gnk_r, gnk_n, gi_1, Nat.reduceLT, if_true, if_false]
      exact hq s mB_refl h
    rw [if_neg y2] at hq
    by_cases y3 : y = 3
    · rw [if_pos y3] at hq
      simp (decide := true) only [E_X12_load_0, E_X12_load_1, E_X12_load_2, E_X12_load_5, E_X12_load_8, E_X12_load_9, E_X12_load_10, E_X12_load_11, E_X12_load_60, E_X12_load_61, E_X12_load_64, E_X12_load_65, E_X12_load_66, E_X12_load_67, E_X12_load_68, E_X12_load_71, E_X12_load_72, E_X12_load_73, E_X12_load_74, E_X12_load_75, E_X12_load_78, E_X12_load_79, E_X12_load_80, E_X12_load_81, E_X12_load_82, E_X12_load_85, E_X12_load_86, E_X12_load_87, E_X12_load_88, E_X12_load_89, E_X12_load_92, E_X12_load_93, E_X12_load_94, E_X12_load_95, E_X12_load_96, E_X12_load_97, E_X12_load_100, E_X12_load_101, E_X12_load_102, E_X12_load_103, E_X12_load_106, E_X12_load_107, E_X12_load_108, E_X12_load_109, E_X12_load_110, E_X12_load_113, E_X12_load_114, E_X12_load_115, E_X12_load_116, E_X12_load_117, E_X12_load_120, E_X12_load_121, E_X12_load_122, rk_137, rc_137, rg_137_11, ra_146, rv_146, i1, i2, a15, hic, b1, y3, gb_1, List.map_nil, List.map_cons, List.sum_cons, List.sum_nil, gcat_i, gcat_r, gcat_l, Nat.reduceAdd, Nat.reduceLeDiff, Nat.zero_le, Option.toList, List.cons_append, List.nil_append, gnk_i, gnk_r, gnk_n, gi_1, Nat.reduceLT, if_true, if_false]
      exact hq s mB_refl h
    rw [if_neg y3] at hq
    by_cases y4 : y = 4
    · rw [if_pos y4] at hq
      simp (decide := true) only [E_X12_load_0, E_X12_load_1, E_X12_load_2, E_X12_load_5, E_X12_load_8, E_X12_load_9, E_X12_load_10, E_X12_load_11, E_X12_load_60, E_X12_load_61, E_X12_load_64, E_X12_load_65, E_X12_load_66, E_X12_load_67, E_X12_load_68, E_X12_load_71, E_X12_load_72, E_X12_load_73, E_X12_load_74, E_X12_load_75, E_X12_load_78, E_X12_load_79, E_X12_load_80, E_X12_load_81, E_X12_load_82, E_X12_load_85, E_X12_load_86, E_X12_load_87, E_X12_load_88, E_X12_load_89, E_X12_load_92, E_X12_load_93, E_X12_load_94, E_X12_load_95, E_X12_load_96, E_X12_load_97, E_X12_load_100, E_X12_load_101, E_X12_load_102, E_X12_load_103, E_X12_load_106, E_X12_load_107, E_X12_load_108, E_X12_load_109, E_X12_load_110, E_X12_load_113, E_X12_load_114, E_X12_load_115, E_X12_load_116, E_X12_load_117, E_X12_load_120, E_X12_load_121, E_X12_load_122, rk_137, rc_137, rg_137_12, ra_147, rv_147, i1, i2, a16, hic, b1, y4, gb_1, List.map_nil, List.map_cons, List.sum_cons, List.sum_nil, gcat_i, gcat_r, gcat_l, Nat.reduceAdd, Nat.reduceLeDiff, Nat.zero_le, Option.toList, List.cons_append, List.nil_append, gnk_i, gnk_r, gnk_n, gi_1, Nat.reduceLT, if_true, if_false]
      exact hq s mB_refl h
    rw [if_neg y4] at hq
    by_cases y5 : y = 5
    · rw [if_pos y5] at hq
      simp (decide := true) only [E_X12_load_0, E_X12_load_1, E_X12_load_2, E_X12_load_5, E_X12_load_8, E_X12_load_9, E_X12_load_10, E_X12_load_11, E_X12_load_60, E_X12_load_61, E_X12_load_64, E_X12_load_65, E_X12_load_66, E_X12_load_67, E_X12_load_68, E_X12_load_71, E_X12_load_72, E_X12_load_73, E_X12_load_74, E_X12_load_75, E_X12_load_78, E_X12_load_79, E_X12_load_80, E_X12_load_81, E_X12_load_82, E_X12_load_85, E_X12_load_86, E_X12_load_87, E_X12_load_88, E_X12_load_89, E_X12_load_92, E_X12_load_93, E_X12_load_94, E_X12_load_95, E_X12_load_96, E_X12_load_97, E_X12_load_100, E_X12_load_101, E_X12_load_102, E_X12_load_103, E_X12_load_106, E_X12_load_107, E_X12_load_108, E_X12_load_109, E_X12_load_110, E_X12_load_113, E_X12_load_114, E_X12_load_115, E_X12_load_116, E_X12_load_117, E_X12_load_120, E_X12_load_121, E_X12_load_122, rc_137, hic, b1, y5, gb_1, List.map_nil, List.map_cons, List.sum_cons, List.sum_nil, gcat_i, gcat_r, gcat_l, Nat.reduceAdd, Nat.reduceLeDiff, Nat.zero_le, Option.toList, List.cons_append, List.nil_append, gnk_i, gnk_r, gnk_n, gi_1, Nat.reduceLT, if_true, if_false]
      refine m_down h ht (fun s2 hA hY => ?_)
      simp (decide := true) only [E_X12_load_0, E_X12_load_1, E_X12_load_2, E_X12_load_5, E_X12_load_8, E_X12_load_9, E_X12_load_10, E_X12_load_11, E_X12_load_60, E_X12_load_61, E_X12_load_64, E_X12_load_65, E_X12_load_66, E_X12_load_67, E_X12_load_68, E_X12_load_71, E_X12_load_72, E_X12_load_73, E_X12_load_74, E_X12_load_75, E_X12_load_78, E_X12_load_79, E_X12_load_80, E_X12_load_81, E_X12_load_82, E_X12_load_85, E_X12_load_86, E_X12_load_87, E_X12_load_88, E_X12_load_89, E_X12_load_92, E_X12_load_93, E_X12_load_94, E_X12_load_95, E_X12_load_96, E_X12_load_97, E_X12_load_100, E_X12_load_101, E_X12_load_102, E_X12_load_103, E_X12_load_106, E_X12_load_107, E_X12_load_108, E_X12_load_109, E_X12_load_110, E_X12_load_113, E_X12_load_114, E_X12_load_115, E_X12_load_116, E_X12_load_117, E_X12_load_120, E_X12_load_121, E_X12_load_122, List.map_nil, List.map_cons, List.sum_cons, List.sum_nil, gcat_i, gcat_r, gcat_l, Nat.reduceAdd, Nat.reduceLeDiff, Nat.zero_le, Option.toList, List.cons_append, List.nil_append, gnk_i, gnk_r, gnk_n, gi_1, Nat.reduceLT, if_true, if_false]
      exact hq s2 (mB_A hA) hY
    rw [if_neg y5] at hq
    by_cases y6 : y = 6
    · rw [if_pos y6] at hq
      simp (decide := true) only [E_X12_load_0, E_X12_load_1, E_X12_load_2, E_X12_load_5, E_X12_load_8, E_X12_load_9, E_X12_load_10, E_X12_load_11, E_X12_load_60, E_X12_load_61, E_X12_load_64, E_X12_load_65, E_X12_load_66, E_X12_load_67, E_X12_load_68, E_X12_load_71, E_X12_load_72, E_X12_load_73, E_X12_load_74, E_X12_load_75, E_X12_load_78, E_X12_load_79, E_X12_load_80, E_X12_load_81, E_X12_load_82, E_X12_load_85, E_X12_load_86, E_X12_load_87, E_X12_load_88, E_X12_load_89, E_X12_load_92, E_X12_load_93, E_X12_load_94, E_X12_load_95, E_X12_load_96, E_X12_load_97, E_X12_load_100, E_X12_load_101, E_X12_load_102, E_X12_load_103, E_X12_load_106, E_X12_load_107, E_X12_load_108, E_X12_load_109, E_X12_load_110, E_X12_load_113, E_X12_load_114, E_X12_load_115, E_X12_load_116, E_X12_load_117, E_X12_load_120, E_X12_load_121, E_X12_load_122, rc_137, hic, b1, y6, gb_1, List.map_nil, List.map_cons, List.sum_cons, List.sum_nil, gcat_i, gcat_r, gcat_l, Nat.reduceAdd, Nat.reduceLeDiff, Nat.zero_le, Option.toList, List.cons_append, List.nil_append, gnk_i, gnk_r, gnk_n, gi_1, Nat.reduceLT, if_true, if_false]
      refine m_bestCrane h ht (fun s2 hA hY => ?_)
      simp (decide := true) only [E_X12_load_0, E_X12_load_1, E_X12_load_2, E_X12_load_5, E_X12_load_8, E_X12_load_9, E_X12_load_10, E_X12_load_11, E_X12_load_60, E_X12_load_61, E_X12_load_64, E_X12_load_65, E_X12_load_66, E_X12_load_67, E_X12_load_68, E_X12_load_71, E_X12_load_72, E_X12_load_73, E_X12_load_74, E_X12_load_75, E_X12_load_78, E_X12_load_79, E_X12_load_80, E_X12_load_81, E_X12_load_82, E_X12_load_85, E_X12_load_86, E_X12_load_87, E_X12_load_88, E_X12_load_89, E_X12_load_92, E_X12_load_93, E_X12_load_94, E_X12_load_95, E_X12_load_96, E_X12_load_97, E_X12_load_100, E_X12_load_101, E_X12_load_102, E_X12_load_103, E_X12_load_106, E_X12_load_107, E_X12_load_108, E_X12_load_109, E_X12_load_110, E_X12_load_113, E_X12_load_114, E_X12_load_115, E_X12_load_116, E_X12_load_117, E_X12_load_120, E_X12_load_121, E_X12_load_122, List.map_nil, List.map_cons, List.sum_cons, List.sum_nil, gcat_i, gcat_r, gcat_l, Nat.reduceAdd, Nat.reduceLeDiff, Nat.zero_le, Option.toList, List.cons_append, List.nil_append, gnk_i, gnk_r, gnk_n, gi_1, Nat.reduceLT, if_true, if_false]
      exact hq s2 (mB_A hA) hY
    rw [if_neg y6] at hq
    by_cases y7 : y = 7
    · rw [if_pos y7] at hq
      simp (decide := true) only [E_X12_load_0, E_X12_load_1, E_X12_load_2, E_X12_load_5, E_X12_load_8, E_X12_load_9, E_X12_load_10, E_X12_load_11, E_X12_load_60, E_X12_load_61, E_X12_load_64, E_X12_load_65, E_X12_load_66, E_X12_load_67, E_X12_load_68, E_X12_load_71, E_X12_load_72, E_X12_load_73, E_X12_load_74, E_X12_load_75, E_X12_load_78, E_X12_load_79, E_X12_load_80, E_X12_load_81, E_X12_load_82, E_X12_load_85, E_X12_load_86, E_X12_load_87, E_X12_load_88, E_X12_load_89, E_X12_load_92, E_X12_load_93, E_X12_load_94, E_X12_load_95, E_X12_load_96, E_X12_load_97, E_X12_load_100, E_X12_load_101, E_X12_load_102, E_X12_load_103, E_X12_load_106, E_X12_load_107, E_X12_load_108, E_X12_load_109, E_X12_load_110, E_X12_load_113, E_X12_load_114, E_X12_load_115, E_X12_load_116, E_X12_load_117, E_X12_load_120, E_X12_load_121, E_X12_load_122, rc_137, hic, b1, y7, gb_1, List.map_nil, List.map_cons, List.sum_cons, List.sum_nil, gcat_i, gcat_r, gcat_l, Nat.reduceAdd, Nat.reduceLeDiff, Nat.zero_le, Option.toList, List.cons_append, List.nil_append, gnk_i, gnk_r, gnk_n, gi_1, Nat.reduceLT, if_true, if_false]
      rw [show (1 : Int32) = gb_i true from rfl]
      refine m_griefs (b := true) ht hl h hS (fun s2 hB hY => ?_)
      simp (decide := true) only [E_X12_load_0, E_X12_load_1, E_X12_load_2, E_X12_load_5, E_X12_load_8, E_X12_load_9, E_X12_load_10, E_X12_load_11, E_X12_load_60, E_X12_load_61, E_X12_load_64, E_X12_load_65, E_X12_load_66, E_X12_load_67, E_X12_load_68, E_X12_load_71, E_X12_load_72, E_X12_load_73, E_X12_load_74, E_X12_load_75, E_X12_load_78, E_X12_load_79, E_X12_load_80, E_X12_load_81, E_X12_load_82, E_X12_load_85, E_X12_load_86, E_X12_load_87, E_X12_load_88, E_X12_load_89, E_X12_load_92, E_X12_load_93, E_X12_load_94, E_X12_load_95, E_X12_load_96, E_X12_load_97, E_X12_load_100, E_X12_load_101, E_X12_load_102, E_X12_load_103, E_X12_load_106, E_X12_load_107, E_X12_load_108, E_X12_load_109, E_X12_load_110, E_X12_load_113, E_X12_load_114, E_X12_load_115, E_X12_load_116, E_X12_load_117, E_X12_load_120, E_X12_load_121, E_X12_load_122, List.map_nil, List.map_cons, List.sum_cons, List.sum_nil, gcat_i, gcat_r, gcat_l, Nat.reduceAdd, Nat.reduceLeDiff, Nat.zero_le, Option.toList, List.cons_append, List.nil_append, gnk_i, gnk_r, gnk_n, gi_1, Nat.reduceLT, if_true, if_false]
      exact hq s2 hB hY
    rw [if_neg y7] at hq
    by_cases y8 : y = 8
    · rw [if_pos y8] at hq
      simp (decide := true) only [E_X12_load_0, E_X12_load_1, E_X12_load_2, E_X12_load_5, E_X12_load_8, E_X12_load_9, E_X12_load_10, E_X12_load_11, E_X12_load_60, E_X12_load_61, E_X12_load_64, E_X12_load_65, E_X12_load_66, E_X12_load_67, E_X12_load_68, E_X12_load_71, E_X12_load_72, E_X12_load_73, E_X12_load_74, E_X12_load_75, E_X12_load_78, E_X12_load_79, E_X12_load_80, E_X12_load_81, E_X12_load_82, E_X12_load_85, E_X12_load_86, E_X12_load_87, E_X12_load_88, E_X12_load_89, E_X12_load_92, E_X12_load_93, E_X12_load_94, E_X12_load_95, E_X12_load_96, E_X12_load_97, E_X12_load_100, E_X12_load_101, E_X12_load_102, E_X12_load_103, E_X12_load_106, E_X12_load_107, E_X12_load_108, E_X12_load_109, E_X12_load_110, E_X12_load_113, E_X12_load_114, E_X12_load_115, E_X12_load_116, E_X12_load_117, E_X12_load_120, E_X12_load_121, E_X12_load_122, rc_137, hic, b1, y8, gb_1, List.map_nil, List.map_cons, List.sum_cons, List.sum_nil, gcat_i, gcat_r, gcat_l, Nat.reduceAdd, Nat.reduceLeDiff, Nat.zero_le, Option.toList, List.cons_append, List.nil_append, gnk_i, gnk_r, gnk_n, gi_1, Nat.reduceLT, if_true, if_false]
      rw [show (0 : Int32) = gb_i false from rfl]
      refine m_griefs (b := false) ht hl h hS (fun s2 hB hY => ?_)
      simp (decide := true) only [E_X12_load_0, E_X12_load_1, E_X12_load_2, E_X12_load_5, E_X12_load_8, E_X12_load_9, E_X12_load_10, E_X12_load_11, E_X12_load_60, E_X12_load_61, E_X12_load_64, E_X12_load_65, E_X12_load_66, E_X12_load_67, E_X12_load_68, E_X12_load_71, E_X12_load_72, E_X12_load_73, E_X12_load_74, E_X12_load_75, E_X12_load_78, E_X12_load_79, E_X12_load_80, E_X12_load_81, E_X12_load_82, E_X12_load_85, E_X12_load_86, E_X12_load_87, E_X12_load_88, E_X12_load_89, E_X12_load_92, E_X12_load_93, E_X12_load_94, E_X12_load_95, E_X12_load_96, E_X12_load_97, E_X12_load_100, E_X12_load_101, E_X12_load_102, E_X12_load_103, E_X12_load_106, E_X12_load_107, E_X12_load_108, E_X12_load_109, E_X12_load_110, E_X12_load_113, E_X12_load_114, E_X12_load_115, E_X12_load_116, E_X12_load_117, E_X12_load_120, E_X12_load_121, E_X12_load_122, List.map_nil, List.map_cons, List.sum_cons, List.sum_nil, gcat_i, gcat_r, gcat_l, Nat.reduceAdd, Nat.reduceLeDiff, Nat.zero_le, Option.toList, List.cons_append, List.nil_append, gnk_i, gnk_r, gnk_n, gi_1, Nat.reduceLT, if_true, if_false]
      exact hq s2 hB hY
    rw [if_neg y8] at hq
    simp (decide := true) only [E_X12_load_0, E_X12_load_1, E_X12_load_2, E_X12_load_5, E_X12_load_8, E_X12_load_9, E_X12_load_10, E_X12_load_11, E_X12_load_60, E_X12_load_61, E_X12_load_64, E_X12_load_65, E_X12_load_66, E_X12_load_67, E_X12_load_68, E_X12_load_71, E_X12_load_72, E_X12_load_73, E_X12_load_74, E_X12_load_75, E_X12_load_78, E_X12_load_79, E_X12_load_80, E_X12_load_81, E_X12_load_82, E_X12_load_85, E_X12_load_86, E_X12_load_87, E_X12_load_88, E_X12_load_89, E_X12_load_92, E_X12_load_93, E_X12_load_94, E_X12_load_95, E_X12_load_96, E_X12_load_97, E_X12_load_100, E_X12_load_101, E_X12_load_102, E_X12_load_103, E_X12_load_106, E_X12_load_107, E_X12_load_108, E_X12_load_109, E_X12_load_110, E_X12_load_113, E_X12_load_114, E_X12_load_115, E_X12_load_116, E_X12_load_117, E_X12_load_120, E_X12_load_121, E_X12_load_122, rc_137, hic, b1, y0, y1, y2, y3, y4, y5, y6, y7, y8, gb_1, List.map_nil, List.map_cons, List.sum_cons, List.sum_nil, gcat_i, gcat_r, gcat_l, Nat.reduceAdd, Nat.reduceLeDiff, Nat.zero_le, Option.toList, List.cons_append, List.nil_append, gnk_i, gnk_r, gnk_n, gi_1, Nat.reduceLT, if_true, if_false]
    exact hq s mB_refl h
theorem i_load (h : gInv s) : gBoth w 69 172 [some (.ref 0), some (.int x), some (.int y)] [some (.ref 137), some (.int x), some (.int y)] s := by
  obtain ⟨φ, p, cu, cs, f, l1, l2, l3, h⟩ := gInv_I h
  refine c_load (gI_R h) (gI_ok h) (gI_hh h) h.2.2.1.1.2.2 h.2.2.1.1.1 (fun s1 hT => ⟨s1, rfl, ?_⟩)
  have h' := gI_U h (cU_T hT)
  exact m_load h'.2.2.1.1.2.2 h'.2.2.1.1.2.1 (gI_YY h') (fun s2 hB hY => ⟨s2, rfl, rfl, ⟨_, rfl⟩, gI_B h' hB hY⟩)
end
