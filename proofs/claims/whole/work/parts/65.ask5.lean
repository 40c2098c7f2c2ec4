/-! the reference: plans, what they end in -/
/-- the plan of the reference: what, thing -/
def mPl (s : gm_S) (l : List (Nat × Nat)) : Prop := s.1 137 42 = nI l.length ∧ l.length ≤ 10 ∧ ∀ i r, l[i]? = some r → s.1 166 i = nI r.1 ∧ s.1 167 i = nI r.2
def gPl_ok (n : Nat) (l : List (Nat × Nat)) : Prop := ∀ r, r ∈ l → r.1 ≤ 3 ∧ (r.1 ≠ 0 → r.2 < n)
theorem mPl_cg {s s' : gm_S} {l : List (Nat × Nat)} (h : mPl s l) (e : ∀ b j, (b = 137 ∧ j = 42) ∨ b = 166 ∨ b = 167 → s'.1 b j = s.1 b j) : mPl s' l := by
  refine ⟨(e 137 42 (by omega)).trans h.1, h.2.1, fun i r hr => ?_⟩
  obtain ⟨a, b⟩ := h.2.2 i r hr
  exact ⟨(e 166 i (by omega)).trans a, (e 167 i (by omega)).trans b⟩
theorem mPl_A {s s' : gm_S} {l : List (Nat × Nat)} (h : mPl s l) (e : mA s s') : mPl s' l := mPl_cg h (fun b j q => e.2 b j (by unfold mAsk; omega))
theorem mPl_B {s s' : gm_S} {l : List (Nat × Nat)} (h : mPl s l) (e : mB s s') : mPl s' l := mPl_cg h (fun b j q => e.2 b j (by unfold mAsk; omega) (by omega) (by omega) (by omega))
/-- a row of the plan goes -/
def gA_plan (p : gA) (r : Nat × Nat) : gA := if r.1 = 0 then gA_hour p else if r.1 = 1 then gA_set p 15 r.2 0 else if r.1 = 2 then (if p.2.1 14 r.2 = 0 then gA_set p 13 r.2 (-1) else p) else gA_fresh p r.2 0
def gA_plans : List (Nat × Nat) → gA → gA
  | [], p => p
  | r :: l, p => gA_plans l (gA_plan p r)
theorem gA_set_comm {p : gA} {i j a b : Nat} {x y : Int32} (h : i ≠ a) : gA_set (gA_set p i j x) a b y = gA_set (gA_set p a b y) i j x := by
  unfold gA_set
  refine congrArg (fun f => ((p.1, f, p.2.2) : gA)) (funext fun u => funext fun v => ?_)
  dsimp only
  by_cases e : u = a ∧ v = b
  · rw [if_pos e, if_neg (fun q => h (q.1.symm.trans e.1)), if_pos e]
  · rw [if_neg e, if_neg e]
theorem gA_plan_n {p : gA} {r : Nat × Nat} : (gA_plan p r).1.2 = p.1.2 ∧ (gA_plan p r).1.1 ≤ p.1.1 + 1 := by
  unfold gA_plan
  by_cases h0 : r.1 = 0
  · rw [if_pos h0]
    exact ⟨rfl, Nat.le_refl _⟩
  rw [if_neg h0]
  by_cases h1 : r.1 = 1
  · rw [if_pos h1]
    exact ⟨rfl, Nat.le_succ _⟩
  rw [if_neg h1]
  by_cases h2 : r.1 = 2
  · rw [if_pos h2]
    by_cases h3 : p.2.1 14 r.2 = 0
    · rw [if_pos h3]
      exact ⟨rfl, Nat.le_succ _⟩
    · rw [if_neg h3]
      exact ⟨rfl, Nat.le_succ _⟩
  rw [if_neg h2]
  exact ⟨rfl, Nat.le_succ _⟩
theorem gA_plan_ok {p : gA} {r : Nat × Nat} (h : gA_ok p) (h2 : gA_k2 p) (hh : p.1.1 + 1 < 2 ^ 30) : gA_ok (gA_plan p r) ∧ gA_k2 (gA_plan p r) := by
  unfold gA_plan
  by_cases h0 : r.1 = 0
  · rw [if_pos h0]
    exact ⟨gA_hour_ok h hh, gA_k2_hour h2⟩
  rw [if_neg h0]
  by_cases h1 : r.1 = 1
  · rw [if_pos h1]
    exact ⟨gA_ok_set h (by omega), gA_k2_set h2 (by omega)⟩
  rw [if_neg h1]
  by_cases h3 : r.1 = 2
  · rw [if_pos h3]
    by_cases h4 : p.2.1 14 r.2 = 0
    · rw [if_pos h4]
      exact ⟨gA_ok_set h (by omega), gA_k2_set h2 (by omega)⟩
    · rw [if_neg h4]
      exact ⟨h, h2⟩
  rw [if_neg h3]
  exact ⟨gA_ok_fresh h, gA_k2_fresh h2⟩
section
variable {w : Nat × (Nat → Int32)} {d : Nat} {s : gm_S} {p : gA} {Q : Option Value → gc_M → Prop} {cs : List fC} {o : Option Nat} {K : Int32}
theorem m_goPlan {r : Nat × Nat} (hcs : fCs cs) (hk : gA_ok p) (hk2 : gA_k2 p) (hY : mY K s o cs p) (h3 : r.1 ≤ 3) (ht : r.1 ≠ 0 → r.2 < p.1.2.2) {s0 : gm_S} (hA : mA s0 s) (hK : mKp s0 s) (hq : ∀ s', mA s0 s' → mKp s0 s' → mY K s' o cs (gA_plan p r) → Q none (gm_m s')) : gc_X w (d + 6) 179 0 [some (.ref 137), some (.int (nI r.1)), some (.int (nI r.2))] [] (gm_m s) Q := by
  obtain ⟨a, t⟩ := r
  have k6 := hk.1
  have k8 := hk.2.1
  dsimp only at h3 ht ⊢
  have n2 : ¬ (2 : Int32) = 0 := by decide
  have c : a = 0 ∨ a = 1 ∨ a = 2 ∨ a = 3 := by omega
  rcases c with rfl | rfl | rfl | rfl
  · rw [nI_0]
    have e1 : ((0 : Int32) = 2) = False := eq_false (by decide)
    have e2 : ((0 : Int32) - 0 / 2 * 2 = 1) = False := eq_false (by decide)
    have e3 : ((0 : Int32) = 3) = False := eq_false (by decide)
    simp only [E_X12_goPlan_0, E_X12_goPlan_1, E_X12_goPlan_4, E_X12_goPlan_5, E_X12_goPlan_8, E_X12_goPlan_9, E_X12_goPlan_10, E_X12_goPlan_13, E_X12_goPlan_14, E_X12_goPlan_17, E_X12_goPlan_18, E_X12_goPlan_19, E_X12_goPlan_22, E_X12_goPlan_23, E_X12_goPlan_26, E_X12_goPlan_27, E_X12_goPlan_29, E_X12_goPlan_30, E_X12_goPlan_31, E_X12_goPlan_32, E_X12_goPlan_33, E_X12_goPlan_34, E_X12_goPlan_37, E_X12_goPlan_38, E_X12_goPlan_41, E_X12_goPlan_42, E_X12_goPlan_43, E_X12_goPlan_44, E_X12_goPlan_45, E_X12_goPlan_46, E_X12_goPlan_49, E_X12_goPlan_50, E_X12_goPlan_53, E_X12_goPlan_54, E_X12_goPlan_55, E_X12_goPlan_56, E_X12_goPlan_57, E_X12_goPlan_60, E_X12_goPlan_61, E_X12_goPlan_62, E_X12_goPlan_63, rc_137, List.map_nil, List.map_cons, List.sum_cons, List.sum_nil, gcat_i, gcat_r, gcat_l, Nat.reduceAdd, Nat.reduceLeDiff, Nat.zero_le, Option.toList, List.cons_append, List.nil_append, gnk_i, gnk_r, gnk_n, gi_1, Nat.reduceLT, if_true, if_false]
    refine m_goHour hcs hk hk2 hY (fun s' hG hY' => ?_)
    simp only [E_X12_goPlan_0, E_X12_goPlan_1, E_X12_goPlan_4, E_X12_goPlan_5, E_X12_goPlan_8, E_X12_goPlan_9, E_X12_goPlan_10, E_X12_goPlan_13, E_X12_goPlan_14, E_X12_goPlan_17, E_X12_goPlan_18, E_X12_goPlan_19, E_X12_goPlan_22, E_X12_goPlan_23, E_X12_goPlan_26, E_X12_goPlan_27, E_X12_goPlan_29, E_X12_goPlan_30, E_X12_goPlan_31, E_X12_goPlan_32, E_X12_goPlan_33, E_X12_goPlan_34, E_X12_goPlan_37, E_X12_goPlan_38, E_X12_goPlan_41, E_X12_goPlan_42, E_X12_goPlan_43, E_X12_goPlan_44, E_X12_goPlan_45, E_X12_goPlan_46, E_X12_goPlan_49, E_X12_goPlan_50, E_X12_goPlan_53, E_X12_goPlan_54, E_X12_goPlan_55, E_X12_goPlan_56, E_X12_goPlan_57, E_X12_goPlan_60, E_X12_goPlan_61, E_X12_goPlan_62, E_X12_goPlan_63, e1, e2, e3, n2, not_false_eq_true, List.map_nil, List.map_cons, List.sum_cons, List.sum_nil, gcat_i, gcat_r, gcat_l, Nat.reduceAdd, Nat.reduceLeDiff, Nat.zero_le, Option.toList, List.cons_append, List.nil_append, gnk_i, gnk_r, gnk_n, gi_1, Nat.reduceLT, if_true, if_false]
    exact hq s' (mA_trans hA (mA_G hG)) (mKp_G hK hG) hY'
  · have htl := ht (by decide)
    have i3 : vp_in (nI t) 8 := vp_in_nI (by omega) (by omega)
    have i4 : (nI t).toNatClampNeg = t := nI_clamp (by omega)
    rw [show nI 1 = 1 from rfl]
    have e1 : ((1 : Int32) = 2) = False := eq_false (by decide)
    have e2 : ((1 : Int32) - 1 / 2 * 2 = 1) = True := eq_true (by decide)
    have e3 : ((1 : Int32) = 3) = False := eq_false (by decide)
    simp only [E_X12_goPlan_0, E_X12_goPlan_1, E_X12_goPlan_4, E_X12_goPlan_5, E_X12_goPlan_8, E_X12_goPlan_9, E_X12_goPlan_10, E_X12_goPlan_13, E_X12_goPlan_14, E_X12_goPlan_17, E_X12_goPlan_18, E_X12_goPlan_19, E_X12_goPlan_22, E_X12_goPlan_23, E_X12_goPlan_26, E_X12_goPlan_27, E_X12_goPlan_29, E_X12_goPlan_30, E_X12_goPlan_31, E_X12_goPlan_32, E_X12_goPlan_33, E_X12_goPlan_34, E_X12_goPlan_37, E_X12_goPlan_38, E_X12_goPlan_41, E_X12_goPlan_42, E_X12_goPlan_43, E_X12_goPlan_44, E_X12_goPlan_45, E_X12_goPlan_46, E_X12_goPlan_49, E_X12_goPlan_50, E_X12_goPlan_53, E_X12_goPlan_54, E_X12_goPlan_55, E_X12_goPlan_56, E_X12_goPlan_57, E_X12_goPlan_60, E_X12_goPlan_61, E_X12_goPlan_62, E_X12_goPlan_63, rk_137, rg_137_11, ra_146, rs_146, i3, i4, g1_0, e1, e2, e3, n2, not_false_eq_true, List.map_nil, List.map_cons, List.sum_cons, List.sum_nil, gcat_i, gcat_r, gcat_l, Nat.reduceAdd, Nat.reduceLeDiff, Nat.zero_le, Option.toList, List.cons_append, List.nil_append, gnk_i, gnk_r, gnk_n, gi_1, Nat.reduceLT, if_true, if_false]
    exact hq _ (mA_si hA (by omega)) (mKp_si hK (by omega)) (mY_set (i := 15) hY k6 (by omega))
  · have htl := ht (by decide)
    have i3 : vp_in (nI t) 8 := vp_in_nI (by omega) (by omega)
    have i4 : (nI t).toNatClampNeg = t := nI_clamp (by omega)
    obtain ⟨-, -, a14, -, -⟩ := hY.1.2.2.2.2.2 t htl
    rw [show nI 2 = 2 from rfl]
    have e0 : ((2 : Int32) = 0) = False := eq_false (by decide)
    have e2 : ((2 : Int32) - 2 / 2 * 2 = 1) = False := eq_false (by decide)
    have e3 : ((2 : Int32) = 3) = False := eq_false (by decide)
    have hY2 := mY_sent (t := t) (x := -1) hY hk
    rw [show mS (-1) = -5 from rfl] at hY2
    by_cases h0 : p.2.1 14 t = 0
    · have ep : gA_plan p (2, t) = gA_set p 13 t (-1) := if_pos h0
      rw [ep] at hq
      simp only [E_X12_goPlan_0, E_X12_goPlan_1, E_X12_goPlan_4, E_X12_goPlan_5, E_X12_goPlan_8, E_X12_goPlan_9, E_X12_goPlan_10, E_X12_goPlan_13, E_X12_goPlan_14, E_X12_goPlan_17, E_X12_goPlan_18, E_X12_goPlan_19, E_X12_goPlan_22, E_X12_goPlan_23, E_X12_goPlan_26, E_X12_goPlan_27, E_X12_goPlan_29, E_X12_goPlan_30, E_X12_goPlan_31, E_X12_goPlan_32, E_X12_goPlan_33, E_X12_goPlan_34, E_X12_goPlan_37, E_X12_goPlan_38, E_X12_goPlan_41, E_X12_goPlan_42, E_X12_goPlan_43, E_X12_goPlan_44, E_X12_goPlan_45, E_X12_goPlan_46, E_X12_goPlan_49, E_X12_goPlan_50, E_X12_goPlan_53, E_X12_goPlan_54, E_X12_goPlan_55, E_X12_goPlan_56, E_X12_goPlan_57, E_X12_goPlan_60, E_X12_goPlan_61, E_X12_goPlan_62, E_X12_goPlan_63, rk_137, rg_137_9, rg_137_10, ra_144, rs_144, ra_145, rv_145, a14, h0, i3, i4, e0, e2, e3, n2, not_false_eq_true, List.map_nil, List.map_cons, List.sum_cons, List.sum_nil, gcat_i, gcat_r, gcat_l, Nat.reduceAdd, Nat.reduceLeDiff, Nat.zero_le, Option.toList, List.cons_append, List.nil_append, gnk_i, gnk_r, gnk_n, gi_1, Nat.reduceLT, if_true, if_false]
      exact hq _ (mA_si hA (by omega)) (mKp_si hK (by omega)) hY2
    · have ep : gA_plan p (2, t) = p := if_neg h0
      rw [ep] at hq
      simp only [E_X12_goPlan_0, E_X12_goPlan_1, E_X12_goPlan_4, E_X12_goPlan_5, E_X12_goPlan_8, E_X12_goPlan_9, E_X12_goPlan_10, E_X12_goPlan_13, E_X12_goPlan_14, E_X12_goPlan_17, E_X12_goPlan_18, E_X12_goPlan_19, E_X12_goPlan_22, E_X12_goPlan_23, E_X12_goPlan_26, E_X12_goPlan_27, E_X12_goPlan_29, E_X12_goPlan_30, E_X12_goPlan_31, E_X12_goPlan_32, E_X12_goPlan_33, E_X12_goPlan_34, E_X12_goPlan_37, E_X12_goPlan_38, E_X12_goPlan_41, E_X12_goPlan_42, E_X12_goPlan_43, E_X12_goPlan_44, E_X12_goPlan_45, E_X12_goPlan_46, E_X12_goPlan_49, E_X12_goPlan_50, E_X12_goPlan_53, E_X12_goPlan_54, E_X12_goPlan_55, E_X12_goPlan_56, E_X12_goPlan_57, E_X12_goPlan_60, E_X12_goPlan_61, E_X12_goPlan_62, E_X12_goPlan_63, rk_137, rg_137_9, rg_137_10, ra_144, rs_144, ra_145, rv_145, a14, h0, i3, i4, e0, e2, e3, n2, not_false_eq_true, List.map_nil, List.map_cons, List.sum_cons, List.sum_nil, gcat_i, gcat_r, gcat_l, Nat.reduceAdd, Nat.reduceLeDiff, Nat.zero_le, Option.toList, List.cons_append, List.nil_append, gnk_i, gnk_r, gnk_n, gi_1, Nat.reduceLT, if_true, if_false]
      exact hq _ hA hK hY
  · have htl := ht (by decide)
    have i3 : vp_in (nI t) 8 := vp_in_nI (by omega) (by omega)
    have i4 : (nI t).toNatClampNeg = t := nI_clamp (by omega)
    rw [show nI 3 = 3 from rfl]
    have e0 : ((3 : Int32) = 0) = False := eq_false (by decide)
    have e1 : ((3 : Int32) = 2) = False := eq_false (by decide)
    have e2 : ((3 : Int32) - 3 / 2 * 2 = 1) = True := eq_true (by decide)
    have ep : gA_plan p (3, t) = gA_set (gA_set (gA_set p 15 t 0) 14 t 0) 16 t 0 := by
      show gA_fresh p t 0 = _
      unfold gA_fresh
      rw [gA_set_comm (i := 14) (a := 15) (by decide)]
    rw [ep] at hq
    simp only [E_X12_goPlan_0, E_X12_goPlan_1, E_X12_goPlan_4, E_X12_goPlan_5, E_X12_goPlan_8, E_X12_goPlan_9, E_X12_goPlan_10, E_X12_goPlan_13, E_X12_goPlan_14, E_X12_goPlan_17, E_X12_goPlan_18, E_X12_goPlan_19, E_X12_goPlan_22, E_X12_goPlan_23, E_X12_goPlan_26, E_X12_goPlan_27, E_X12_goPlan_29, E_X12_goPlan_30, E_X12_goPlan_31, E_X12_goPlan_32, E_X12_goPlan_33, E_X12_goPlan_34, E_X12_goPlan_37, E_X12_goPlan_38, E_X12_goPlan_41, E_X12_goPlan_42, E_X12_goPlan_43, E_X12_goPlan_44, E_X12_goPlan_45, E_X12_goPlan_46, E_X12_goPlan_49, E_X12_goPlan_50, E_X12_goPlan_53, E_X12_goPlan_54, E_X12_goPlan_55, E_X12_goPlan_56, E_X12_goPlan_57, E_X12_goPlan_60, E_X12_goPlan_61, E_X12_goPlan_62, E_X12_goPlan_63, rk_137, rg_137_10, rg_137_11, rg_137_12, ra_145, rs_145, ra_146, rs_146, ra_147, rs_147, i3, i4, e0, e1, e2, n2, not_false_eq_true, List.map_nil, List.map_cons, List.sum_cons, List.sum_nil, gcat_i, gcat_r, gcat_l, Nat.reduceAdd, Nat.reduceLeDiff, Nat.zero_le, Option.toList, List.cons_append, List.nil_append, gnk_i, gnk_r, gnk_n, gi_1, Nat.reduceLT, if_true, if_false]
    exact hq _ (mA_si (mA_si (mA_si hA (by omega)) (by omega)) (by omega)) (mKp_si (mKp_si (mKp_si hK (by omega)) (by omega)) (by omega)) (mY_set (i := 16) (mY_set (i := 14) (mY_set (i := 15) hY k6 (by omega)) k6 (by omega)) k6 (by omega))
theorem m_plans_loop {s0 : gm_S} {y : Int32} {l : List (Nat × Nat)} (hcs : fCs cs) (hP0 : mPl s0 l) : ∀ (n i : Nat) (s : gm_S) (p : gA), i + n = l.length → gA_ok p → gA_k2 p → p.1.1 ≤ 10000 + i → gPl_ok p.1.2.2 l → mY K s o cs p → mA s0 s → mKp s0 s → (∀ s' q l2, gA_plans (l.drop i) p = q → gA_ok q → mA s0 s' → mKp s0 s' → mY K s' o cs q → gc_X w (d + 7) 180 48 [some (.ref 137), some (.int y), l2] [] (gm_m s') Q) → gc_X w (d + 7) 180 18 [some (.ref 137), some (.int y), some (.int (nI i))] [] (gm_m s) Q := by
  intro n
  induction n with
  | zero =>
    intro i s p hi hk hk2 hh hl hY hA hK hq
    have hP := mPl_A hP0 hA
    have h1 := hP.1
    have h10 := hP.2.1
    have e : l.length = i := by omega
    rw [e] at h1
    rw [E_X12_ends_18]
    simp only [E_X12_ends_0, E_X12_ends_1, E_X12_ends_2, E_X12_ends_3, E_X12_ends_4, E_X12_ends_7, E_X12_ends_10, E_X12_ends_11, E_X12_ends_12, E_X12_ends_13, E_X12_ends_16, E_X12_ends_17, E_X12_ends_19, E_X12_ends_20, E_X12_ends_23, E_X12_ends_26, E_X12_ends_27, E_X12_ends_28, E_X12_ends_31, E_X12_ends_32, E_X12_ends_33, E_X12_ends_34, E_X12_ends_37, E_X12_ends_38, E_X12_ends_39, E_X12_ends_42, E_X12_ends_45, E_X12_ends_49, E_X12_ends_50, E_X12_ends_51, E_X12_ends_54, E_X12_ends_55, E_X12_ends_58, E_X12_ends_59, E_X12_ends_62, E_X12_ends_65, E_X12_ends_66, E_X12_ends_67, E_X12_ends_70, E_X12_ends_71, rk_137, rg_137_42, h1, nI_le (Nat.le_refl i) (by omega : i < 2 ^ 31), gnk_i, gnk_r, gnk_n, gi_1, Nat.reduceLT, if_true, if_false]
    refine hq s p _ ?_ hk hA hK hY
    rw [List.drop_of_length_le (by omega)]
    rfl
  | succ n ih =>
    intro i s p hi hk hk2 hh hl hY hA hK hq
    have hP := mPl_A hP0 hA
    have h1 := hP.1
    have h10 := hP.2.1
    have hil : i < l.length := by omega
    have hg : l[i]? = some l[i] := List.getElem?_eq_getElem hil
    obtain ⟨w1, w2⟩ := hP.2.2 i _ hg
    obtain ⟨q1, q2⟩ := hl _ (List.getElem_mem hil)
    have j1 : vp_in (nI i) 10 := vp_in_nI (by omega) (by omega)
    have j2 : (nI i).toNatClampNeg = i := nI_clamp (by omega)
    have hge : ¬ nI l.length ≤ nI i := nI_ge (by omega) (by omega)
    have hi2 := ih (i + 1)
    rw [nI_succ] at hi2
    rw [List.drop_eq_getElem_cons hil] at hq
    have hn := gA_plan_n (p := p) (r := l[i])
    have ho := gA_plan_ok (r := l[i]) hk hk2 (by omega)
    rw [E_X12_ends_18]
    simp only [E_X12_ends_0, E_X12_ends_1, E_X12_ends_2, E_X12_ends_3, E_X12_ends_4, E_X12_ends_7, E_X12_ends_10, E_X12_ends_11, E_X12_ends_12, E_X12_ends_13, E_X12_ends_16, E_X12_ends_17, E_X12_ends_19, E_X12_ends_20, E_X12_ends_23, E_X12_ends_26, E_X12_ends_27, E_X12_ends_28, E_X12_ends_31, E_X12_ends_32, E_X12_ends_33, E_X12_ends_34, E_X12_ends_37, E_X12_ends_38, E_X12_ends_39, E_X12_ends_42, E_X12_ends_45, E_X12_ends_49, E_X12_ends_50, E_X12_ends_51, E_X12_ends_54, E_X12_ends_55, E_X12_ends_58, E_X12_ends_59, E_X12_ends_62, E_X12_ends_65, E_X12_ends_66, E_X12_ends_67, E_X12_ends_70, E_X12_ends_71, rk_137, rc_137, rg_137_42, rg_137_44, rg_137_45, ra_166, rv_166, ra_167, rv_167, h1, hge, j1, j2, w1, w2, List.map_nil, List.map_cons, List.sum_cons, List.sum_nil, gcat_i, gcat_r, gcat_l, Nat.reduceAdd, Nat.reduceLeDiff, Nat.zero_le, Option.toList, List.cons_append, List.nil_append, gnk_i, gnk_r, gnk_n, gi_1, Nat.reduceLT, if_true, if_false]
    refine m_goPlan hcs hk hk2 hY q1 q2 hA hK (fun s' hA' hK' hY' => ?_)
    simp only [E_X12_ends_0, E_X12_ends_1, E_X12_ends_2, E_X12_ends_3, E_X12_ends_4, E_X12_ends_7, E_X12_ends_10, E_X12_ends_11, E_X12_ends_12, E_X12_ends_13, E_X12_ends_16, E_X12_ends_17, E_X12_ends_19, E_X12_ends_20, E_X12_ends_23, E_X12_ends_26, E_X12_ends_27, E_X12_ends_28, E_X12_ends_31, E_X12_ends_32, E_X12_ends_33, E_X12_ends_34, E_X12_ends_37, E_X12_ends_38, E_X12_ends_39, E_X12_ends_42, E_X12_ends_45, E_X12_ends_49, E_X12_ends_50, E_X12_ends_51, E_X12_ends_54, E_X12_ends_55, E_X12_ends_58, E_X12_ends_59, E_X12_ends_62, E_X12_ends_65, E_X12_ends_66, E_X12_ends_67, E_X12_ends_70, E_X12_ends_71, List.map_nil, List.map_cons, List.sum_cons, List.sum_nil, gcat_i, gcat_r, gcat_l, Nat.reduceAdd, Nat.reduceLeDiff, Nat.zero_le, Option.toList, List.cons_append, List.nil_append, gnk_i, gnk_r, gnk_n, gi_1, Nat.reduceLT, if_true, if_false]
    exact hi2 s' (gA_plan p l[i]) (by omega) ho.1 ho.2 (by omega) (by rw [hn.1]; exact hl) hY' hA' hK' hq
end
/-- ENDS -/
def a_ends (p : gA) (l : List (Nat × Nat)) (x : Int32) : Int32 := if gB_in x 0 1 = false then -1 else if x = 0 then gA_cnt (gA_plans l p) 2 else gA_cnt (gA_plans l p) 3
section
variable {w : Nat × (Nat → Int32)} {d : Nat} {s : gm_S} {p : gA} {Q : Option Value → gc_M → Prop} {cs : List fC} {o : Option Nat} {x : Int32}
theorem m_ends {l : List (Nat × Nat)} (h : mYY s o cs p) (hl : gPl_ok p.1.2.2 l) (hP : mPl s l) (hq : ∀ s', mA s s' → mYY s' o cs p → Q (some (.int (a_ends p l x))) (gm_m s')) : gc_X w (d + 7) 180 0 [some (.ref 137), some (.int x), none] [] (gm_m s) Q := by
  have h0 := h
  obtain ⟨hY, hk, hk2, hcs, hh⟩ := h
  have hin := fun (a b c : Int32) (Q : Option Value → gc_M → Prop) => m_in (w := w) (d := d + 6) (s := s) (x := a) (y := b) (z := c) (Q := Q)
  unfold a_ends at hq
  cases b1 : gB_in x 0 1 with
  | false =>
    rw [b1, if_pos rfl] at hq
    simp only [E_X12_ends_0, E_X12_ends_1, E_X12_ends_2, E_X12_ends_3, E_X12_ends_4, E_X12_ends_7, E_X12_ends_10, E_X12_ends_11, E_X12_ends_12, E_X12_ends_13, E_X12_ends_16, E_X12_ends_17, E_X12_ends_19, E_X12_ends_20, E_X12_ends_23, E_X12_ends_26, E_X12_ends_27, E_X12_ends_28, E_X12_ends_31, E_X12_ends_32, E_X12_ends_33, E_X12_ends_34, E_X12_ends_37, E_X12_ends_38, E_X12_ends_39, E_X12_ends_42, E_X12_ends_45, E_X12_ends_48, E_X12_ends_49, E_X12_ends_50, E_X12_ends_51, E_X12_ends_54, E_X12_ends_55, E_X12_ends_58, E_X12_ends_59, E_X12_ends_62, E_X12_ends_65, E_X12_ends_66, E_X12_ends_67, E_X12_ends_70, E_X12_ends_71, rc_137, hin, b1, gb_0, List.map_nil, List.map_cons, List.sum_cons, List.sum_nil, gcat_i, gcat_r, gcat_l, Nat.reduceAdd, Nat.reduceLeDiff, Nat.zero_le, Option.toList, List.cons_append, List.nil_append, gnk_i, gnk_r, gnk_n, gi_1, Nat.reduceLT, if_true, if_false]
    exact hq s mA_refl h0
  | true =>
    rw [b1, if_neg (by decide)] at hq
    simp only [E_X12_ends_0, E_X12_ends_1, E_X12_ends_2, E_X12_ends_3, E_X12_ends_4, E_X12_ends_7, E_X12_ends_10, E_X12_ends_11, E_X12_ends_12, E_X12_ends_13, E_X12_ends_16, E_X12_ends_17, E_X12_ends_19, E_X12_ends_20, E_X12_ends_23, E_X12_ends_26, E_X12_ends_27, E_X12_ends_28, E_X12_ends_31, E_X12_ends_32, E_X12_ends_33, E_X12_ends_34, E_X12_ends_37, E_X12_ends_38, E_X12_ends_39, E_X12_ends_42, E_X12_ends_45, E_X12_ends_48, E_X12_ends_49, E_X12_ends_50, E_X12_ends_51, E_X12_ends_54, E_X12_ends_55, E_X12_ends_58, E_X12_ends_59, E_X12_ends_62, E_X12_ends_65, E_X12_ends_66, E_X12_ends_67, E_X12_ends_70, E_X12_ends_71, rc_137, hin, b1, gb_1, g1_0, List.map_nil, List.map_cons, List.sum_cons, List.sum_nil, gcat_i, gcat_r, gcat_l, Nat.reduceAdd, Nat.reduceLeDiff, Nat.zero_le, Option.toList, List.cons_append, List.nil_append, gnk_i, gnk_r, gnk_n, gi_1, Nat.reduceLT, if_true, if_false]
    refine m_save hk hk2 hY (fun s1 hA1 hK1 hY1 => ?_)
    simp only [E_X12_ends_0, E_X12_ends_1, E_X12_ends_2, E_X12_ends_3, E_X12_ends_4, E_X12_ends_7, E_X12_ends_10, E_X12_ends_11, E_X12_ends_12, E_X12_ends_13, E_X12_ends_16, E_X12_ends_17, E_X12_ends_19, E_X12_ends_20, E_X12_ends_23, E_X12_ends_26, E_X12_ends_27, E_X12_ends_28, E_X12_ends_31, E_X12_ends_32, E_X12_ends_33, E_X12_ends_34, E_X12_ends_37, E_X12_ends_38, E_X12_ends_39, E_X12_ends_42, E_X12_ends_45, E_X12_ends_48, E_X12_ends_49, E_X12_ends_50, E_X12_ends_51, E_X12_ends_54, E_X12_ends_55, E_X12_ends_58, E_X12_ends_59, E_X12_ends_62, E_X12_ends_65, E_X12_ends_66, E_X12_ends_67, E_X12_ends_70, E_X12_ends_71, List.map_nil, List.map_cons, List.sum_cons, List.sum_nil, gcat_i, gcat_r, gcat_l, Nat.reduceAdd, Nat.reduceLeDiff, Nat.zero_le, Option.toList, List.cons_append, List.nil_append, gnk_i, gnk_r, gnk_n, gi_1, Nat.reduceLT, if_true, if_false]
    rw [← nI_0]
    refine m_plans_loop hcs hP (s0 := s) l.length 0 s1 p (by omega) hk hk2 (by omega) hl hY1 hA1 hK1 (fun s2 q l2 eq hk3 hA2 hK2 hY2 => ?_)
    rw [List.drop_zero] at eq
    subst eq
    have hso := fun (z : Int32) (Q : Option Value → gc_M → Prop) => m_setOf (w := w) (d := d + 6) (z := z) (Q := Q) hY2.1 hk3
    have hcn := fun (z : Int32) (Q : Option Value → gc_M → Prop) => m_cnt (w := w) (d := d + 5) (s := s2) (z := z) (Q := Q) hk3
    by_cases x0 : x = 0
    · rw [if_pos x0] at hq
      simp only [E_X12_ends_0, E_X12_ends_1, E_X12_ends_2, E_X12_ends_3, E_X12_ends_4, E_X12_ends_7, E_X12_ends_10, E_X12_ends_11, E_X12_ends_12, E_X12_ends_13, E_X12_ends_16, E_X12_ends_17, E_X12_ends_19, E_X12_ends_20, E_X12_ends_23, E_X12_ends_26, E_X12_ends_27, E_X12_ends_28, E_X12_ends_31, E_X12_ends_32, E_X12_ends_33, E_X12_ends_34, E_X12_ends_37, E_X12_ends_38, E_X12_ends_39, E_X12_ends_42, E_X12_ends_45, E_X12_ends_48, E_X12_ends_49, E_X12_ends_50, E_X12_ends_51, E_X12_ends_54, E_X12_ends_55, E_X12_ends_58, E_X12_ends_59, E_X12_ends_62, E_X12_ends_65, E_X12_ends_66, E_X12_ends_67, E_X12_ends_70, E_X12_ends_71, rc_137, hso, hcn, x0, List.map_nil, List.map_cons, List.sum_cons, List.sum_nil, gcat_i, gcat_r, gcat_l, Nat.reduceAdd, Nat.reduceLeDiff, Nat.zero_le, Option.toList, List.cons_append, List.nil_append, gnk_i, gnk_r, gnk_n, gi_1, Nat.reduceLT, if_true, if_false]
      refine m_put hk hY hA2 hK2 (fun s3 hA3 hY3 => ?_)
      simp only [E_X12_ends_0, E_X12_ends_1, E_X12_ends_2, E_X12_ends_3, E_X12_ends_4, E_X12_ends_7, E_X12_ends_10, E_X12_ends_11, E_X12_ends_12, E_X12_ends_13, E_X12_ends_16, E_X12_ends_17, E_X12_ends_19, E_X12_ends_20, E_X12_ends_23, E_X12_ends_26, E_X12_ends_27, E_X12_ends_28, E_X12_ends_31, E_X12_ends_32, E_X12_ends_33, E_X12_ends_34, E_X12_ends_37, E_X12_ends_38, E_X12_ends_39, E_X12_ends_42, E_X12_ends_45, E_X12_ends_48, E_X12_ends_49, E_X12_ends_50, E_X12_ends_51, E_X12_ends_54, E_X12_ends_55, E_X12_ends_58, E_X12_ends_59, E_X12_ends_62, E_X12_ends_65, E_X12_ends_66, E_X12_ends_67, E_X12_ends_70, E_X12_ends_71, List.map_nil, List.map_cons, List.sum_cons, List.sum_nil, gcat_i, gcat_r, gcat_l, Nat.reduceAdd, Nat.reduceLeDiff, Nat.zero_le, Option.toList, List.cons_append, List.nil_append, gnk_i, gnk_r, gnk_n, gi_1, Nat.reduceLT, if_true, if_false]
      exact hq s3 hA3 (mYY_of h0 hY3)
    · rw [if_neg x0] at hq
      simp only [E_X12_ends_0, E_X12_ends_1, E_X12_ends_2, E_X12_ends_3, E_X12_ends_4, E_X12_ends_7, E_X12_ends_10, E_X12_ends_11, E_X12_ends_12, E_X12_ends_13, E_X12_ends_16, E_X12_ends_17, E_X12_ends_19, E_X12_ends_20, E_X12_ends_23, E_X12_ends_26, E_X12_ends_27, E_X12_ends_28, E_X12_ends_31, E_X12_ends_32, E_X12_ends_33, E_X12_ends_34, E_X12_ends_37, E_X12_ends_38, E_X12_ends_39, E_X12_ends_42, E_X12_ends_45, E_X12_ends_48, E_X12_ends_49, E_X12_ends_50, E_X12_ends_51, E_X12_ends_54, E_X12_ends_55, E_X12_ends_58, E_X12_ends_59, E_X12_ends_62, E_X12_ends_65, E_X12_ends_66, E_X12_ends_67, E_X12_ends_70, E_X12_ends_71, rc_137, hso, hcn, x0, List.map_nil, List.map_cons, List.sum_cons, List.sum_nil, gcat_i, gcat_r, gcat_l, Nat.reduceAdd, Nat.reduceLeDiff, Nat.zero_le, Option.toList, List.cons_append, List.nil_append, gnk_i, gnk_r, gnk_n, gi_1, Nat.reduceLT, if_true, if_false]
      refine m_put hk hY hA2 hK2 (fun s3 hA3 hY3 => ?_)
      simp only [E_X12_ends_0, E_X12_ends_1, E_X12_ends_2, E_X12_ends_3, E_X12_ends_4, E_X12_ends_7, E_X12_ends_10, E_X12_ends_11, E_X12_ends_12, E_X12_ends_13, E_X12_ends_16, E_X12_ends_17, E_X12_ends_19, E_X12_ends_20, E_X12_ends_23, E_X12_ends_26, E_X12_ends_27, E_X12_ends_28, E_X12_ends_31, E_X12_ends_32, E_X12_ends_33, E_X12_ends_34, E_X12_ends_37, E_X12_ends_38, E_X12_ends_39, E_X12_ends_42, E_X12_ends_45, E_X12_ends_48, E_X12_ends_49, E_X12_ends_50, E_X12_ends_51, E_X12_ends_54, E_X12_ends_55, E_X12_ends_58, E_X12_ends_59, E_X12_ends_62, E_X12_ends_65, E_X12_ends_66, E_X12_ends_67, E_X12_ends_70, E_X12_ends_71, List.map_nil, List.map_cons, List.sum_cons, List.sum_nil, gcat_i, gcat_r, gcat_l, Nat.reduceAdd, Nat.reduceLeDiff, Nat.zero_le, Option.toList, List.cons_append, List.nil_append, gnk_i, gnk_r, gnk_n, gi_1, Nat.reduceLT, if_true, if_false]
      exact hq s3 hA3 (mYY_of h0 hY3)
end
