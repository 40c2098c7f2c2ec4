/-! the reference: change, crew -/
def gA_k3 (p : gA) : Prop := ∀ t, t < p.1.2.2 → p.2.1 13 t = -1 ∨ ∃ c, c < p.1.2.1 ∧ p.2.1 13 t = nI c
def gA_swap (p : gA) (a b : Nat) : gA := gA_set (gA_set p 13 a (p.2.1 13 b)) 13 b (p.2.1 13 a)
def a_fall (p : gA) (a b n : Nat) : Int32 := gA_cnt (gA_go n (gA_swap p a b)) 3
def gA_ch1 (p : gA) (k a : Nat) : Nat → Nat → Int32 × Int32 → Int32 × Int32
  | 0, _, q => q
  | m + 1, b, q => gA_ch1 p k a m (b + 1) (if p.2.1 14 a = 0 ∧ p.2.1 14 b = 0 ∧ a_fall p a b k < q.2 then (10 * nI a + nI b, a_fall p a b k) else q)
def gA_ch (p : gA) (k : Nat) : Nat → Nat → Int32 × Int32 → Int32 × Int32
  | 0, _, q => q
  | m + 1, a, q => gA_ch p k m (a + 1) (gA_ch1 p k a (p.1.2.2 - (a + 1)) (a + 1) q)
/-- CHANGE -/
def a_change (p : gA) (k : Nat) : Int32 := (gA_ch p k p.1.2.2 0 (-5, gA_cnt (gA_go k p) 3)).1
/-- no crane but those of a set -/
def gA_cut (u : Nat) : Nat → Nat → gA → gA
  | 0, _, p => p
  | m + 1, t, p => gA_cut u m (t + 1) (if p.2.1 14 t = 0 ∧ p.2.1 13 t ≠ -1 ∧ u / 2 ^ (p.2.1 13 t).toNatClampNeg % 2 = 0 then gA_set p 13 t (-1) else p)
def a_laid (p : gA) (u k : Nat) : Int32 := gA_cnt (gA_go k (gA_cut u p.1.2.2 0 p)) 2
def gA_cw (p : gA) (k : Nat) : Nat → Nat → Option Nat → Option Nat
  | 0, _, f => f
  | m + 1, u, f => gA_cw p k m (u + 1) (if (∃ g, f = some g ∧ gpc g ≤ gpc u) then f else if gA_cnt (gA_go k p) 2 ≤ a_laid p u k then some u else f)
/-- CREW -/
def a_crew (p : gA) (k : Nat) : Int32 := gp_i (gA_cw p k (2 ^ p.1.2.1) 0 none) (-5)
theorem gA_cut_n {u : Nat} : ∀ {m t : Nat} {p : gA}, (gA_cut u m t p).1 = p.1
  | 0, _, _ => rfl
  | m + 1, t, p => by
    unfold gA_cut
    rw [gA_cut_n]
    split <;> rfl
theorem gA_cut_ok {u : Nat} : ∀ {m t : Nat} {p : gA}, gA_ok p → gA_ok (gA_cut u m t p)
  | 0, _, _, h => h
  | m + 1, t, p, h => by
    unfold gA_cut
    refine gA_cut_ok ?_
    split
    · exact gA_ok_set h (by decide)
    · exact h
theorem gA_cut_k2 {u : Nat} : ∀ {m t : Nat} {p : gA}, gA_k2 p → gA_k2 (gA_cut u m t p)
  | 0, _, _, h => h
  | m + 1, t, p, h => by
    unfold gA_cut
    refine gA_cut_k2 ?_
    split
    · exact gA_k2_set h (by omega)
    · exact h
theorem gA_set13_14 {p : gA} {t u : Nat} {x : Int32} : (gA_set p 13 t x).2.1 14 u = p.2.1 14 u := by rw [gA_set_at, if_neg (fun e => by omega)]
section
variable {w : Nat × (Nat → Int32)} {d a b : Nat} {s : gm_S} {p : gA} {Q : Option Value → gc_M → Prop} {cs : List fC} {o : Option Nat} {x : Int32} {k : Nat}
/-- hours, counted, put back -/
theorem m_fallenBy (h : mYY s o cs p) (ha : a < p.1.2.2) (hb : b < p.1.2.2) (hk60 : k ≤ 60) (hq : ∀ s', mA s s' → mYY s' o cs p → Q (some (.int (a_fall p a b k))) (gm_m s')) : gc_X w (d + 7) 164 0 [some (.ref 137), some (.int (nI a)), some (.int (nI b)), some (.int (nI k)), none, none] [] (gm_m s) Q := by
  have h0 := h
  obtain ⟨hY, hk, hk2, hcs, hh⟩ := h
  have k8 := hk.2.1
  have i1 : vp_in (nI a) 8 := vp_in_nI (by omega) (by omega)
  have i2 : (nI a).toNatClampNeg = a := nI_clamp (by omega)
  have i3 : vp_in (nI b) 8 := vp_in_nI (by omega) (by omega)
  have i4 : (nI b).toNatClampNeg = b := nI_clamp (by omega)
  simp only [E_X12_fallenBy_0, E_X12_fallenBy_1, rc_137, List.map_nil, List.map_cons, List.sum_cons, List.sum_nil, gcat_i, gcat_r, gcat_l, Nat.reduceAdd, Nat.reduceLeDiff, Nat.zero_le, Option.toList, List.cons_append, List.nil_append, gnk_i, gnk_r, gnk_n, gi_1, Nat.reduceLT, if_true, if_false]
  refine m_save hk hk2 hY (fun s1 hA1 hK1 hY1 => ?_)
  obtain ⟨-, a13, -, -, -⟩ := hY1.1.2.2.2.2.2 a ha
  obtain ⟨-, b13, -, -, -⟩ := hY1.1.2.2.2.2.2 b hb
  have hY2 := mY_sent (t := b) (x := p.2.1 13 a) (mY_sent (t := a) (x := p.2.1 13 b) hY1 hk) (gA_ok_set hk (by omega))
  have hko : gA_ok (gA_swap p a b) := gA_ok_set (gA_ok_set hk (by omega)) (by omega)
  have hk2o : gA_k2 (gA_swap p a b) := gA_k2_set (gA_k2_set hk2 (by omega)) (by omega)
  simp only [E_X12_fallenBy_4, E_X12_fallenBy_5, E_X12_fallenBy_8, E_X12_fallenBy_9, E_X12_fallenBy_10, E_X12_fallenBy_12, E_X12_fallenBy_13, E_X12_fallenBy_16, E_X12_fallenBy_17, E_X12_fallenBy_18, E_X12_fallenBy_21, E_X12_fallenBy_22, E_X12_fallenBy_23, E_X12_fallenBy_24, E_X12_fallenBy_25, E_X12_fallenBy_28, E_X12_fallenBy_29, E_X12_fallenBy_31, E_X12_fallenBy_32, E_X12_fallenBy_33, E_X12_fallenBy_34, E_X12_fallenBy_37, E_X12_fallenBy_38, E_X12_fallenBy_39, E_X12_fallenBy_40, E_X12_fallenBy_43, E_X12_fallenBy_46, E_X12_fallenBy_48, E_X12_fallenBy_49, E_X12_fallenBy_52, E_X12_fallenBy_54, rk_137, rc_137, rg_137_9, ra_144, rv_144, rs_144, i1, i2, i3, i4, a13, b13, List.map_nil, List.map_cons, List.sum_cons, List.sum_nil, gcat_i, gcat_r, gcat_l, Nat.reduceAdd, Nat.reduceLeDiff, Nat.zero_le, Option.toList, List.cons_append, List.nil_append, gnk_i, gnk_r, gnk_n, gi_1, Nat.reduceLT, if_true, if_false]
  refine m_go hcs hko hk2o (by show p.1.1 + k < _; omega) hY2 (fun s2 hG2 hY3 => ?_)
  have gk : gA_ok (gA_go k (gA_swap p a b)) := gA_go_ok hko (by show p.1.1 + k < _; omega)
  have hso := fun (z : Int32) (Q : Option Value → gc_M → Prop) => m_setOf (w := w) (d := d + 6) (z := z) (Q := Q) hY3.1 gk
  have hcn := fun (z : Int32) (Q : Option Value → gc_M → Prop) => m_cnt (w := w) (d := d + 5) (s := s2) (z := z) (Q := Q) gk
  simp only [E_X12_fallenBy_4, E_X12_fallenBy_5, E_X12_fallenBy_8, E_X12_fallenBy_9, E_X12_fallenBy_10, E_X12_fallenBy_12, E_X12_fallenBy_13, E_X12_fallenBy_16, E_X12_fallenBy_17, E_X12_fallenBy_18, E_X12_fallenBy_21, E_X12_fallenBy_22, E_X12_fallenBy_23, E_X12_fallenBy_24, E_X12_fallenBy_25, E_X12_fallenBy_28, E_X12_fallenBy_29, E_X12_fallenBy_31, E_X12_fallenBy_32, E_X12_fallenBy_33, E_X12_fallenBy_34, E_X12_fallenBy_37, E_X12_fallenBy_38, E_X12_fallenBy_39, E_X12_fallenBy_40, E_X12_fallenBy_43, E_X12_fallenBy_46, E_X12_fallenBy_48, E_X12_fallenBy_49, E_X12_fallenBy_52, E_X12_fallenBy_54, rk_137, rc_137, hso, hcn, List.map_nil, List.map_cons, List.sum_cons, List.sum_nil, gcat_i, gcat_r, gcat_l, Nat.reduceAdd, Nat.reduceLeDiff, Nat.zero_le, Option.toList, List.cons_append, List.nil_append, gnk_i, gnk_r, gnk_n, gi_1, Nat.reduceLT, if_true, if_false]
  refine m_put hk hY (mA_trans (mA_si (mA_si hA1 (by omega)) (by omega)) (mA_G hG2)) (mKp_G (mKp_si (mKp_si hK1 (by omega)) (by omega)) hG2) (fun s3 hA3 hY4 => ?_)
  simp only [E_X12_fallenBy_4, E_X12_fallenBy_5, E_X12_fallenBy_8, E_X12_fallenBy_9, E_X12_fallenBy_10, E_X12_fallenBy_12, E_X12_fallenBy_13, E_X12_fallenBy_16, E_X12_fallenBy_17, E_X12_fallenBy_18, E_X12_fallenBy_21, E_X12_fallenBy_22, E_X12_fallenBy_23, E_X12_fallenBy_24, E_X12_fallenBy_25, E_X12_fallenBy_28, E_X12_fallenBy_29, E_X12_fallenBy_31, E_X12_fallenBy_32, E_X12_fallenBy_33, E_X12_fallenBy_34, E_X12_fallenBy_37, E_X12_fallenBy_38, E_X12_fallenBy_39, E_X12_fallenBy_40, E_X12_fallenBy_43, E_X12_fallenBy_46, E_X12_fallenBy_48, E_X12_fallenBy_49, E_X12_fallenBy_52, E_X12_fallenBy_54, List.map_nil, List.map_cons, List.sum_cons, List.sum_nil, gcat_i, gcat_r, gcat_l, Nat.reduceAdd, Nat.reduceLeDiff, Nat.zero_le, Option.toList, List.cons_append, List.nil_append, gnk_i, gnk_r, gnk_n, gi_1, Nat.reduceLT, if_true, if_false]
  exact hq s3 hA3 (mYY_of h0 hY4)
theorem m_ch1_loop {s0 : gm_S} (ha : a < p.1.2.2) (hk60 : k ≤ 60) : ∀ (m b : Nat) (q : Int32 × Int32) (s : gm_S) (l6 : Option Value), b + m = p.1.2.2 → mA s0 s → mYY s o cs p → (∀ s' l5 l6', mA s0 s' → mYY s' o cs p → gc_X w (d + 8) 165 98 [some (.ref 137), some (.int (nI k)), some (.int (gA_ch1 p k a m b q).1), some (.int (gA_ch1 p k a m b q).2), some (.int (nI a)), l5, l6'] [] (gm_m s') Q) → gc_X w (d + 8) 165 28 [some (.ref 137), some (.int (nI k)), some (.int q.1), some (.int q.2), some (.int (nI a)), some (.int (nI b)), l6] [] (gm_m s) Q := by
  intro m
  induction m with
  | zero =>
    intro b q s l6 hb hA h hq
    have k8 := h.2.1.2.1
    have h9 := h.1.1.2.1
    have e : p.1.2.2 = b := by omega
    rw [e] at h9
    rw [E_X12_changed_28]
    simp only [E_X12_changed_0, E_X12_changed_2, E_X12_changed_3, E_X12_changed_4, E_X12_changed_5, E_X12_changed_6, E_X12_changed_9, E_X12_changed_10, E_X12_changed_11, E_X12_changed_15, E_X12_changed_16, E_X12_changed_19, E_X12_changed_22, E_X12_changed_24, E_X12_changed_25, E_X12_changed_26, E_X12_changed_30, E_X12_changed_31, E_X12_changed_34, E_X12_changed_37, E_X12_changed_38, E_X12_changed_41, E_X12_changed_43, E_X12_changed_44, E_X12_changed_47, E_X12_changed_48, E_X12_changed_51, E_X12_changed_53, E_X12_changed_54, E_X12_changed_57, E_X12_changed_60, E_X12_changed_61, E_X12_changed_63, E_X12_changed_65, E_X12_changed_66, E_X12_changed_69, E_X12_changed_71, E_X12_changed_73, E_X12_changed_74, E_X12_changed_77, E_X12_changed_80, E_X12_changed_82, E_X12_changed_84, E_X12_changed_85, E_X12_changed_87, E_X12_changed_88, E_X12_changed_89, E_X12_changed_91, E_X12_changed_92, E_X12_changed_95, E_X12_changed_101, E_X12_changed_104, E_X12_changed_105, rk_137, rg_137_1, h9, nI_le (Nat.le_refl b) (by omega : b < 2 ^ 31), gnk_i, gnk_r, gnk_n, gi_1, Nat.reduceLT, if_true, if_false]
    exact hq s _ _ hA h
  | succ m ih =>
    intro b q s l6 hb hA h hq
    have k8 := h.2.1.2.1
    have h9 := h.1.1.2.1
    have hbl : b < p.1.2.2 := by omega
    have i1 : vp_in (nI a) 8 := vp_in_nI (by omega) (by omega)
    have i2 : (nI a).toNatClampNeg = a := nI_clamp (by omega)
    have i3 : vp_in (nI b) 8 := vp_in_nI (by omega) (by omega)
    have i4 : (nI b).toNatClampNeg = b := nI_clamp (by omega)
    have hge : ¬ nI p.1.2.2 ≤ nI b := nI_ge (by omega) (by omega)
    obtain ⟨-, -, a14, -, -⟩ := h.1.1.2.2.2.2.2 a ha
    obtain ⟨-, -, b14, -, -⟩ := h.1.1.2.2.2.2.2 b hbl
    have hi := ih (b + 1)
    rw [nI_succ] at hi
    rw [gA_ch1] at hq
    rw [E_X12_changed_28]
    by_cases h1 : p.2.1 14 a = 0
    · by_cases h2 : p.2.1 14 b = 0
      · simp only [E_X12_changed_0, E_X12_changed_2, E_X12_changed_3, E_X12_changed_4, E_X12_changed_5, E_X12_changed_6, E_X12_changed_9, E_X12_changed_10, E_X12_changed_11, E_X12_changed_15, E_X12_changed_16, E_X12_changed_19, E_X12_changed_22, E_X12_changed_24, E_X12_changed_25, E_X12_changed_26, E_X12_changed_30, E_X12_changed_31, E_X12_changed_34, E_X12_changed_37, E_X12_changed_38, E_X12_changed_41, E_X12_changed_43, E_X12_changed_44, E_X12_changed_47, E_X12_changed_48, E_X12_changed_51, E_X12_changed_53, E_X12_changed_54, E_X12_changed_57, E_X12_changed_60, E_X12_changed_61, E_X12_changed_63, E_X12_changed_65, E_X12_changed_66, E_X12_changed_69, E_X12_changed_71, E_X12_changed_73, E_X12_changed_74, E_X12_changed_77, E_X12_changed_80, E_X12_changed_82, E_X12_changed_84, E_X12_changed_85, E_X12_changed_87, E_X12_changed_88, E_X12_changed_89, E_X12_changed_91, E_X12_changed_92, E_X12_changed_95, E_X12_changed_101, E_X12_changed_104, E_X12_changed_105, rk_137, rc_137, rg_137_1, rg_137_10, ra_145, rv_145, i1, i2, i3, i4, h9, hge, a14, b14, h1, h2, List.map_nil, List.map_cons, List.sum_cons, List.sum_nil, gcat_i, gcat_r, gcat_l, Nat.reduceAdd, Nat.reduceLeDiff, Nat.zero_le, Option.toList, List.cons_append, List.nil_append, gnk_i, gnk_r, gnk_n, gi_1, Nat.reduceLT, if_true, if_false]
        refine m_fallenBy h ha hbl hk60 (fun s' hA' h' => ?_)
        by_cases h3 : a_fall p a b k < q.2
        · rw [if_pos ⟨h1, h2, h3⟩] at hq
          simp only [E_X12_changed_0, E_X12_changed_2, E_X12_changed_3, E_X12_changed_4, E_X12_changed_5, E_X12_changed_6, E_X12_changed_9, E_X12_changed_10, E_X12_changed_11, E_X12_changed_15, E_X12_changed_16, E_X12_changed_19, E_X12_changed_22, E_X12_changed_24, E_X12_changed_25, E_X12_changed_26, E_X12_changed_30, E_X12_changed_31, E_X12_changed_34, E_X12_changed_37, E_X12_changed_38, E_X12_changed_41, E_X12_changed_43, E_X12_changed_44, E_X12_changed_47, E_X12_changed_48, E_X12_changed_51, E_X12_changed_53, E_X12_changed_54, E_X12_changed_57, E_X12_changed_60, E_X12_changed_61, E_X12_changed_63, E_X12_changed_65, E_X12_changed_66, E_X12_changed_69, E_X12_changed_71, E_X12_changed_73, E_X12_changed_74, E_X12_changed_77, E_X12_changed_80, E_X12_changed_82, E_X12_changed_84, E_X12_changed_85, E_X12_changed_87, E_X12_changed_88, E_X12_changed_89, E_X12_changed_91, E_X12_changed_92, E_X12_changed_95, E_X12_changed_101, E_X12_changed_104, E_X12_changed_105, h3, List.map_nil, List.map_cons, List.sum_cons, List.sum_nil, gcat_i, gcat_r, gcat_l, Nat.reduceAdd, Nat.reduceLeDiff, Nat.zero_le, Option.toList, List.cons_append, List.nil_append, gnk_i, gnk_r, gnk_n, gi_1, Nat.reduceLT, if_true, if_false]
          exact hi _ s' _ (by omega) (mA_trans hA hA') h' hq
        · rw [if_neg (fun e => h3 e.2.2)] at hq
          simp only [E_X12_changed_0, E_X12_changed_2, E_X12_changed_3, E_X12_changed_4, E_X12_changed_5, E_X12_changed_6, E_X12_changed_9, E_X12_changed_10, E_X12_changed_11, E_X12_changed_15, E_X12_changed_16, E_X12_changed_19, E_X12_changed_22, E_X12_changed_24, E_X12_changed_25, E_X12_changed_26, E_X12_changed_30, E_X12_changed_31, E_X12_changed_34, E_X12_changed_37, E_X12_changed_38, E_X12_changed_41, E_X12_changed_43, E_X12_changed_44, E_X12_changed_47, E_X12_changed_48, E_X12_changed_51, E_X12_changed_53, E_X12_changed_54, E_X12_changed_57, E_X12_changed_60, E_X12_changed_61, E_X12_changed_63, E_X12_changed_65, E_X12_changed_66, E_X12_changed_69, E_X12_changed_71, E_X12_changed_73, E_X12_changed_74, E_X12_changed_77, E_X12_changed_80, E_X12_changed_82, E_X12_changed_84, E_X12_changed_85, E_X12_changed_87, E_X12_changed_88, E_X12_changed_89, E_X12_changed_91, E_X12_changed_92, E_X12_changed_95, E_X12_changed_101, E_X12_changed_104, E_X12_changed_105, h3, List.map_nil, List.map_cons, List.sum_cons, List.sum_nil, gcat_i, gcat_r, gcat_l, Nat.reduceAdd, Nat.reduceLeDiff, Nat.zero_le, Option.toList, List.cons_append, List.nil_append, gnk_i, gnk_r, gnk_n, gi_1, Nat.reduceLT, if_true, if_false]
          exact hi _ s' _ (by omega) (mA_trans hA hA') h' hq
      · rw [if_neg (fun e => h2 e.2.1)] at hq
        simp only [E_X12_changed_0, E_X12_changed_2, E_X12_changed_3, E_X12_changed_4, E_X12_changed_5, E_X12_changed_6, E_X12_changed_9, E_X12_changed_10, E_X12_changed_11, E_X12_changed_15, E_X12_changed_16, E_X12_changed_19, E_X12_changed_22, E_X12_changed_24, E_X12_changed_25, E_X12_changed_26, E_X12_changed_30, E_X12_changed_31, E_X12_changed_34, E_X12_changed_37, E_X12_changed_38, E_X12_changed_41, E_X12_changed_43, E_X12_changed_44, E_X12_changed_47, E_X12_changed_48, E_X12_changed_51, E_X12_changed_53, E_X12_changed_54, E_X12_changed_57, E_X12_changed_60, E_X12_changed_61, E_X12_changed_63, E_X12_changed_65, E_X12_changed_66, E_X12_changed_69, E_X12_changed_71, E_X12_changed_73, E_X12_changed_74, E_X12_changed_77, E_X12_changed_80, E_X12_changed_82, E_X12_changed_84, E_X12_changed_85, E_X12_changed_87, E_X12_changed_88, E_X12_changed_89, E_X12_changed_91, E_X12_changed_92, E_X12_changed_95, E_X12_changed_101, E_X12_changed_104, E_X12_changed_105, rk_137, rc_137, rg_137_1, rg_137_10, ra_145, rv_145, i1, i2, i3, i4, h9, hge, a14, b14, h1, h2, List.map_nil, List.map_cons, List.sum_cons, List.sum_nil, gcat_i, gcat_r, gcat_l, Nat.reduceAdd, Nat.reduceLeDiff, Nat.zero_le, Option.toList, List.cons_append, List.nil_append, gnk_i, gnk_r, gnk_n, gi_1, Nat.reduceLT, if_true, if_false]
        exact hi _ s _ (by omega) hA h hq
    · rw [if_neg (fun e => h1 e.1)] at hq
      simp only [E_X12_changed_0, E_X12_changed_2, E_X12_changed_3, E_X12_changed_4, E_X12_changed_5, E_X12_changed_6, E_X12_changed_9, E_X12_changed_10, E_X12_changed_11, E_X12_changed_15, E_X12_changed_16, E_X12_changed_19, E_X12_changed_22, E_X12_changed_24, E_X12_changed_25, E_X12_changed_26, E_X12_changed_30, E_X12_changed_31, E_X12_changed_34, E_X12_changed_37, E_X12_changed_38, E_X12_changed_41, E_X12_changed_43, E_X12_changed_44, E_X12_changed_47, E_X12_changed_48, E_X12_changed_51, E_X12_changed_53, E_X12_changed_54, E_X12_changed_57, E_X12_changed_60, E_X12_changed_61, E_X12_changed_63, E_X12_changed_65, E_X12_changed_66, E_X12_changed_69, E_X12_changed_71, E_X12_changed_73, E_X12_changed_74, E_X12_changed_77, E_X12_changed_80, E_X12_changed_82, E_X12_changed_84, E_X12_changed_85, E_X12_changed_87, E_X12_changed_88, E_X12_changed_89, E_X12_changed_91, E_X12_changed_92, E_X12_changed_95, E_X12_changed_101, E_X12_changed_104, E_X12_changed_105, rk_137, rc_137, rg_137_1, rg_137_10, ra_145, rv_145, i1, i2, i3, i4, h9, hge, a14, b14, h1, List.map_nil, List.map_cons, List.sum_cons, List.sum_nil, gcat_i, gcat_r, gcat_l, Nat.reduceAdd, Nat.reduceLeDiff, Nat.zero_le, Option.toList, List.cons_append, List.nil_append, gnk_i, gnk_r, gnk_n, gi_1, Nat.reduceLT, if_true, if_false]
      exact hi _ s _ (by omega) hA h hq
theorem m_ch_loop {s0 : gm_S} (hk60 : k ≤ 60) : ∀ (m a : Nat) (q : Int32 × Int32) (s : gm_S) (l5 l6 : Option Value), a + m = p.1.2.2 → mA s0 s → mYY s o cs p → (∀ s', mA s0 s' → mYY s' o cs p → Q (some (.int (gA_ch p k m a q).1)) (gm_m s')) → gc_X w (d + 8) 165 13 [some (.ref 137), some (.int (nI k)), some (.int q.1), some (.int q.2), some (.int (nI a)), l5, l6] [] (gm_m s) Q := by
  intro m
  induction m with
  | zero =>
    intro a q s l5 l6 hb hA h hq
    have k8 := h.2.1.2.1
    have h9 := h.1.1.2.1
    have e : p.1.2.2 = a := by omega
    rw [e] at h9
    rw [E_X12_changed_13]
    simp only [E_X12_changed_0, E_X12_changed_2, E_X12_changed_3, E_X12_changed_4, E_X12_changed_5, E_X12_changed_6, E_X12_changed_9, E_X12_changed_10, E_X12_changed_11, E_X12_changed_15, E_X12_changed_16, E_X12_changed_19, E_X12_changed_22, E_X12_changed_24, E_X12_changed_25, E_X12_changed_26, E_X12_changed_30, E_X12_changed_31, E_X12_changed_34, E_X12_changed_37, E_X12_changed_38, E_X12_changed_41, E_X12_changed_43, E_X12_changed_44, E_X12_changed_47, E_X12_changed_48, E_X12_changed_51, E_X12_changed_53, E_X12_changed_54, E_X12_changed_57, E_X12_changed_60, E_X12_changed_61, E_X12_changed_63, E_X12_changed_65, E_X12_changed_66, E_X12_changed_69, E_X12_changed_71, E_X12_changed_73, E_X12_changed_74, E_X12_changed_77, E_X12_changed_80, E_X12_changed_82, E_X12_changed_84, E_X12_changed_85, E_X12_changed_87, E_X12_changed_88, E_X12_changed_89, E_X12_changed_91, E_X12_changed_92, E_X12_changed_95, E_X12_changed_98, E_X12_changed_101, E_X12_changed_104, E_X12_changed_105, rk_137, rg_137_1, h9, nI_le (Nat.le_refl a) (by omega : a < 2 ^ 31), gnk_i, gnk_r, gnk_n, gi_1, Nat.reduceLT, if_true, if_false]
    exact hq s hA h
  | succ m ih =>
    intro a q s l5 l6 hb hA h hq
    have k8 := h.2.1.2.1
    have h9 := h.1.1.2.1
    have hge : ¬ nI p.1.2.2 ≤ nI a := nI_ge (by omega) (by omega)
    have hi := ih (a + 1)
    rw [nI_succ] at hi
    rw [gA_ch] at hq
    rw [E_X12_changed_13]
    simp only [E_X12_changed_0, E_X12_changed_2, E_X12_changed_3, E_X12_changed_4, E_X12_changed_5, E_X12_changed_6, E_X12_changed_9, E_X12_changed_10, E_X12_changed_11, E_X12_changed_15, E_X12_changed_16, E_X12_changed_19, E_X12_changed_22, E_X12_changed_24, E_X12_changed_25, E_X12_changed_26, E_X12_changed_30, E_X12_changed_31, E_X12_changed_34, E_X12_changed_37, E_X12_changed_38, E_X12_changed_41, E_X12_changed_43, E_X12_changed_44, E_X12_changed_47, E_X12_changed_48, E_X12_changed_51, E_X12_changed_53, E_X12_changed_54, E_X12_changed_57, E_X12_changed_60, E_X12_changed_61, E_X12_changed_63, E_X12_changed_65, E_X12_changed_66, E_X12_changed_69, E_X12_changed_71, E_X12_changed_73, E_X12_changed_74, E_X12_changed_77, E_X12_changed_80, E_X12_changed_82, E_X12_changed_84, E_X12_changed_85, E_X12_changed_87, E_X12_changed_88, E_X12_changed_89, E_X12_changed_91, E_X12_changed_92, E_X12_changed_95, E_X12_changed_101, E_X12_changed_104, E_X12_changed_105, rk_137, rg_137_1, h9, hge, gnk_i, gnk_r, gnk_n, gi_1, Nat.reduceLT, if_true, if_false]
    rw [← nI_succ]
    refine m_ch1_loop (by omega) hk60 (p.1.2.2 - (a + 1)) (a + 1) q s l6 (by omega) hA h (fun s' l5' l6' hA' h' => ?_)
    simp only [E_X12_changed_98, E_X12_changed_101, gnk_i, gnk_r, gnk_n, gi_1, Nat.reduceLT, if_true, if_false]
    exact hi _ s' _ _ (by omega) hA' h' hq
theorem a_on_0 {p : gA} {k : Nat} (hk60 : k ≤ 60) : a_on p (nI k) 0 = gA_cnt (gA_go k p) 2 := by
  have e60 : gB_in (nI k) 0 60 = true := gB_in_nI (k := 60) hk60 (by omega)
  have ek : (nI k).toNatClampNeg = k := nI_clamp (by omega)
  have e0 : gB_in 0 0 1 = true := by decide
  unfold a_on
  rw [e0, e60, ek]
  rfl
theorem a_on_1 {p : gA} {k : Nat} (hk60 : k ≤ 60) : a_on p (nI k) 1 = gA_cnt (gA_go k p) 3 := by
  have e60 : gB_in (nI k) 0 60 = true := gB_in_nI (k := 60) hk60 (by omega)
  have ek : (nI k).toNatClampNeg = k := nI_clamp (by omega)
  have e0 : gB_in 1 0 1 = true := by decide
  unfold a_on
  rw [e0, e60, ek]
  rfl
theorem m_changed (h : mYY s o cs p) (hk60 : k ≤ 60) (hq : ∀ s', mA s s' → mYY s' o cs p → Q (some (.int (a_change p k))) (gm_m s')) : gc_X w (d + 8) 165 0 [some (.ref 137), some (.int (nI k)), none, none, none, none, none] [] (gm_m s) Q := by
  simp only [E_X12_changed_0, E_X12_changed_2, E_X12_changed_3, E_X12_changed_4, E_X12_changed_5, E_X12_changed_6, E_X12_changed_9, E_X12_changed_10, E_X12_changed_11, E_X12_changed_15, E_X12_changed_16, E_X12_changed_19, E_X12_changed_22, E_X12_changed_24, E_X12_changed_25, E_X12_changed_26, E_X12_changed_30, E_X12_changed_31, E_X12_changed_34, E_X12_changed_37, E_X12_changed_38, E_X12_changed_41, E_X12_changed_43, E_X12_changed_44, E_X12_changed_47, E_X12_changed_48, E_X12_changed_51, E_X12_changed_53, E_X12_changed_54, E_X12_changed_57, E_X12_changed_60, E_X12_changed_61, E_X12_changed_63, E_X12_changed_65, E_X12_changed_66, E_X12_changed_69, E_X12_changed_71, E_X12_changed_73, E_X12_changed_74, E_X12_changed_77, E_X12_changed_80, E_X12_changed_82, E_X12_changed_84, E_X12_changed_85, E_X12_changed_87, E_X12_changed_88, E_X12_changed_89, E_X12_changed_91, E_X12_changed_92, E_X12_changed_95, E_X12_changed_98, E_X12_changed_101, E_X12_changed_104, E_X12_changed_105, rc_137, List.map_nil, List.map_cons, List.sum_cons, List.sum_nil, gcat_i, gcat_r, gcat_l, Nat.reduceAdd, Nat.reduceLeDiff, Nat.zero_le, Option.toList, List.cons_append, List.nil_append, gnk_i, gnk_r, gnk_n, gi_1, Nat.reduceLT, if_true, if_false]
  refine m_on h (fun s' hA' h' => ?_)
  rw [a_on_1 hk60]
  simp only [E_X12_changed_0, E_X12_changed_2, E_X12_changed_3, E_X12_changed_4, E_X12_changed_5, E_X12_changed_6, E_X12_changed_9, E_X12_changed_10, E_X12_changed_11, E_X12_changed_15, E_X12_changed_16, E_X12_changed_19, E_X12_changed_22, E_X12_changed_24, E_X12_changed_25, E_X12_changed_26, E_X12_changed_30, E_X12_changed_31, E_X12_changed_34, E_X12_changed_37, E_X12_changed_38, E_X12_changed_41, E_X12_changed_43, E_X12_changed_44, E_X12_changed_47, E_X12_changed_48, E_X12_changed_51, E_X12_changed_53, E_X12_changed_54, E_X12_changed_57, E_X12_changed_60, E_X12_changed_61, E_X12_changed_63, E_X12_changed_65, E_X12_changed_66, E_X12_changed_69, E_X12_changed_71, E_X12_changed_73, E_X12_changed_74, E_X12_changed_77, E_X12_changed_80, E_X12_changed_82, E_X12_changed_84, E_X12_changed_85, E_X12_changed_87, E_X12_changed_88, E_X12_changed_89, E_X12_changed_91, E_X12_changed_92, E_X12_changed_95, E_X12_changed_98, E_X12_changed_101, E_X12_changed_104, E_X12_changed_105, List.map_nil, List.map_cons, List.sum_cons, List.sum_nil, gcat_i, gcat_r, gcat_l, Nat.reduceAdd, Nat.reduceLeDiff, Nat.zero_le, Option.toList, List.cons_append, List.nil_append, gnk_i, gnk_r, gnk_n, gi_1, Nat.reduceLT, if_true, if_false]
  rw [← nI_0]
  exact m_ch_loop (s0 := s) hk60 p.1.2.2 0 (-5, gA_cnt (gA_go k p) 3) s' _ _ (by omega) hA' h' hq
theorem m_cut_loop {K : Int32} {s0 : gm_S} {u : Nat} (hu : u < 256) : ∀ (m t : Nat) (s : gm_S) (p : gA), t + m = p.1.2.2 → gA_ok p → gA_k3 p → mA s0 s → mKp s0 s → mY K s o cs p → (∀ s' l3, mA s0 s' → mKp s0 s' → mY K s' o cs (gA_cut u m t p) → gc_X w (d + 7) 166 60 [some (.ref 137), some (.int (nI u)), some (.int (nI k)), l3] [] (gm_m s') Q) → gc_X w (d + 7) 166 6 [some (.ref 137), some (.int (nI u)), some (.int (nI k)), some (.int (nI t))] [] (gm_m s) Q := by
  intro m
  induction m with
  | zero =>
    intro t s p ht hk hk3 hA hK hY hq
    have k8 := hk.2.1
    have h9 := hY.1.2.1
    have e : p.1.2.2 = t := by omega
    rw [e] at h9
    rw [E_X12_laidBy_6]
    simp only [E_X12_laidBy_0, E_X12_laidBy_1, E_X12_laidBy_4, E_X12_laidBy_5, E_X12_laidBy_7, E_X12_laidBy_8, E_X12_laidBy_11, E_X12_laidBy_14, E_X12_laidBy_15, E_X12_laidBy_18, E_X12_laidBy_19, E_X12_laidBy_20, E_X12_laidBy_23, E_X12_laidBy_24, E_X12_laidBy_27, E_X12_laidBy_28, E_X12_laidBy_29, E_X12_laidBy_32, E_X12_laidBy_33, E_X12_laidBy_34, E_X12_laidBy_35, E_X12_laidBy_38, E_X12_laidBy_39, E_X12_laidBy_40, E_X12_laidBy_43, E_X12_laidBy_46, E_X12_laidBy_47, E_X12_laidBy_50, E_X12_laidBy_51, E_X12_laidBy_53, E_X12_laidBy_54, E_X12_laidBy_57, E_X12_laidBy_61, E_X12_laidBy_62, E_X12_laidBy_65, E_X12_laidBy_66, E_X12_laidBy_67, E_X12_laidBy_68, E_X12_laidBy_71, E_X12_laidBy_74, E_X12_laidBy_75, E_X12_laidBy_76, E_X12_laidBy_79, E_X12_laidBy_80, rk_137, rg_137_1, h9, nI_le (Nat.le_refl t) (by omega : t < 2 ^ 31), gnk_i, gnk_r, gnk_n, gi_1, Nat.reduceLT, if_true, if_false]
    exact hq s _ hA hK hY
  | succ m ih =>
    intro t s p ht hk hk3 hA hK hY hq
    have k6 := hk.1
    have k8 := hk.2.1
    have h9 := hY.1.2.1
    have htl : t < p.1.2.2 := by omega
    have i3 : vp_in (nI t) 8 := vp_in_nI (by omega) (by omega)
    have i4 : (nI t).toNatClampNeg = t := nI_clamp (by omega)
    have hge : ¬ nI p.1.2.2 ≤ nI t := nI_ge (by omega) (by omega)
    obtain ⟨-, a13, a14, -, -⟩ := hY.1.2.2.2.2.2 t htl
    have hi := ih (t + 1)
    rw [nI_succ] at hi
    rw [gA_cut] at hq
    rw [E_X12_laidBy_6]
    by_cases h1 : p.2.1 14 t = 0
    · rcases hk3 t htl with h2 | ⟨c, hc, h2⟩
      · rw [if_neg (fun e => e.2.1 h2)] at hq
        have em : mS (p.2.1 13 t) = -5 := by rw [h2]; rfl
        simp only [E_X12_laidBy_0, E_X12_laidBy_1, E_X12_laidBy_4, E_X12_laidBy_5, E_X12_laidBy_7, E_X12_laidBy_8, E_X12_laidBy_11, E_X12_laidBy_14, E_X12_laidBy_15, E_X12_laidBy_18, E_X12_laidBy_19, E_X12_laidBy_20, E_X12_laidBy_23, E_X12_laidBy_24, E_X12_laidBy_27, E_X12_laidBy_28, E_X12_laidBy_29, E_X12_laidBy_32, E_X12_laidBy_33, E_X12_laidBy_34, E_X12_laidBy_35, E_X12_laidBy_38, E_X12_laidBy_39, E_X12_laidBy_40, E_X12_laidBy_43, E_X12_laidBy_46, E_X12_laidBy_47, E_X12_laidBy_50, E_X12_laidBy_51, E_X12_laidBy_53, E_X12_laidBy_54, E_X12_laidBy_57, E_X12_laidBy_61, E_X12_laidBy_62, E_X12_laidBy_65, E_X12_laidBy_66, E_X12_laidBy_67, E_X12_laidBy_68, E_X12_laidBy_71, E_X12_laidBy_74, E_X12_laidBy_75, E_X12_laidBy_76, E_X12_laidBy_79, E_X12_laidBy_80, rk_137, rg_137_1, rg_137_9, rg_137_10, ra_144, rv_144, ra_145, rv_145, i3, i4, h9, hge, a13, a14, h1, em, nI_neg5, gnk_i, gnk_r, gnk_n, gi_1, Nat.reduceLT, if_true, if_false]
        exact hi s p (by omega) hk hk3 hA hK hY hq
      · have em : mS (p.2.1 13 t) = nI c := by rw [h2]; exact mS_c (by omega)
        have hn : ¬ nI c < 0 := nI_pos (by omega)
        have hm1 : p.2.1 13 t ≠ -1 := by rw [h2]; exact nI_nm1 (by omega)
        have ec : (p.2.1 13 t).toNatClampNeg = c := by rw [h2]; exact nI_clamp (by omega)
        have hh := fun (Q : Option Value → gc_M → Prop) => m_has (w := w) (d := d + 6) (s := s) (n := u) (k := c) (Q := Q) (by omega) (by omega)
        rw [ec] at hq
        by_cases h3 : u / 2 ^ c % 2 = 0
        · rw [if_pos ⟨h1, hm1, h3⟩] at hq
          rw [h3, nI_0] at hh
          simp only [E_X12_laidBy_0, E_X12_laidBy_1, E_X12_laidBy_4, E_X12_laidBy_5, E_X12_laidBy_7, E_X12_laidBy_8, E_X12_laidBy_11, E_X12_laidBy_14, E_X12_laidBy_15, E_X12_laidBy_18, E_X12_laidBy_19, E_X12_laidBy_20, E_X12_laidBy_23, E_X12_laidBy_24, E_X12_laidBy_27, E_X12_laidBy_28, E_X12_laidBy_29, E_X12_laidBy_32, E_X12_laidBy_33, E_X12_laidBy_34, E_X12_laidBy_35, E_X12_laidBy_38, E_X12_laidBy_39, E_X12_laidBy_40, E_X12_laidBy_43, E_X12_laidBy_46, E_X12_laidBy_47, E_X12_laidBy_50, E_X12_laidBy_51, E_X12_laidBy_53, E_X12_laidBy_54, E_X12_laidBy_57, E_X12_laidBy_61, E_X12_laidBy_62, E_X12_laidBy_65, E_X12_laidBy_66, E_X12_laidBy_67, E_X12_laidBy_68, E_X12_laidBy_71, E_X12_laidBy_74, E_X12_laidBy_75, E_X12_laidBy_76, E_X12_laidBy_79, E_X12_laidBy_80, rk_137, rc_137, rg_137_1, rg_137_9, rg_137_10, ra_144, rv_144, rs_144, ra_145, rv_145, i3, i4, h9, hge, a13, a14, h1, em, hn, hh, List.map_nil, List.map_cons, List.sum_cons, List.sum_nil, gcat_i, gcat_r, gcat_l, Nat.reduceAdd, Nat.reduceLeDiff, Nat.zero_le, Option.toList, List.cons_append, List.nil_append, gnk_i, gnk_r, gnk_n, gi_1, Nat.reduceLT, if_true, if_false]
          have hY2 := mY_sent (t := t) (x := -1) hY hk
          have e5 : mS (-1) = -5 := rfl
          rw [e5] at hY2
          refine hi _ (gA_set p 13 t (-1)) (by show t + 1 + m = p.1.2.2; omega) (gA_ok_set hk (by omega)) (fun v hv => ?_) (mA_si hA (by omega)) (mKp_si hK (by omega)) hY2 hq
          by_cases e : v = t
          · exact Or.inl (by rw [gA_set_at, if_pos ⟨rfl, e⟩])
          · rw [gA_set_at, if_neg (fun q => e q.2)]
            exact hk3 v hv
        · rw [if_neg (fun e => h3 e.2.2)] at hq
          have h4 : u / 2 ^ c % 2 = 1 := by omega
          rw [h4, show nI 1 = 1 from rfl] at hh
          simp only [E_X12_laidBy_0, E_X12_laidBy_1, E_X12_laidBy_4, E_X12_laidBy_5, E_X12_laidBy_7, E_X12_laidBy_8, E_X12_laidBy_11, E_X12_laidBy_14, E_X12_laidBy_15, E_X12_laidBy_18, E_X12_laidBy_19, E_X12_laidBy_20, E_X12_laidBy_23, E_X12_laidBy_24, E_X12_laidBy_27, E_X12_laidBy_28, E_X12_laidBy_29, E_X12_laidBy_32, E_X12_laidBy_33, E_X12_laidBy_34, E_X12_laidBy_35, E_X12_laidBy_38, E_X12_laidBy_39, E_X12_laidBy_40, E_X12_laidBy_43, E_X12_laidBy_46, E_X12_laidBy_47, E_X12_laidBy_50, E_X12_laidBy_51, E_X12_laidBy_53, E_X12_laidBy_54, E_X12_laidBy_57, E_X12_laidBy_61, E_X12_laidBy_62, E_X12_laidBy_65, E_X12_laidBy_66, E_X12_laidBy_67, E_X12_laidBy_68, E_X12_laidBy_71, E_X12_laidBy_74, E_X12_laidBy_75, E_X12_laidBy_76, E_X12_laidBy_79, E_X12_laidBy_80, rk_137, rc_137, rg_137_1, rg_137_9, rg_137_10, ra_144, rv_144, ra_145, rv_145, i3, i4, h9, hge, a13, a14, h1, em, hn, hh, g1_0, List.map_nil, List.map_cons, List.sum_cons, List.sum_nil, gcat_i, gcat_r, gcat_l, Nat.reduceAdd, Nat.reduceLeDiff, Nat.zero_le, Option.toList, List.cons_append, List.nil_append, gnk_i, gnk_r, gnk_n, gi_1, Nat.reduceLT, if_true, if_false]
          exact hi s p (by omega) hk hk3 hA hK hY hq
    · rw [if_neg (fun e => h1 e.1)] at hq
      simp only [E_X12_laidBy_0, E_X12_laidBy_1, E_X12_laidBy_4, E_X12_laidBy_5, E_X12_laidBy_7, E_X12_laidBy_8, E_X12_laidBy_11, E_X12_laidBy_14, E_X12_laidBy_15, E_X12_laidBy_18, E_X12_laidBy_19, E_X12_laidBy_20, E_X12_laidBy_23, E_X12_laidBy_24, E_X12_laidBy_27, E_X12_laidBy_28, E_X12_laidBy_29, E_X12_laidBy_32, E_X12_laidBy_33, E_X12_laidBy_34, E_X12_laidBy_35, E_X12_laidBy_38, E_X12_laidBy_39, E_X12_laidBy_40, E_X12_laidBy_43, E_X12_laidBy_46, E_X12_laidBy_47, E_X12_laidBy_50, E_X12_laidBy_51, E_X12_laidBy_53, E_X12_laidBy_54, E_X12_laidBy_57, E_X12_laidBy_61, E_X12_laidBy_62, E_X12_laidBy_65, E_X12_laidBy_66, E_X12_laidBy_67, E_X12_laidBy_68, E_X12_laidBy_71, E_X12_laidBy_74, E_X12_laidBy_75, E_X12_laidBy_76, E_X12_laidBy_79, E_X12_laidBy_80, rk_137, rg_137_1, rg_137_10, ra_145, rv_145, i3, i4, h9, hge, a14, h1, gnk_i, gnk_r, gnk_n, gi_1, Nat.reduceLT, if_true, if_false]
      exact hi s p (by omega) hk hk3 hA hK hY hq
theorem m_laidBy {u : Nat} (hu : u < 256) (h : mYY s o cs p) (h3 : gA_k3 p) (hk60 : k ≤ 60) (hq : ∀ s', mA s s' → mYY s' o cs p → Q (some (.int (a_laid p u k))) (gm_m s')) : gc_X w (d + 7) 166 0 [some (.ref 137), some (.int (nI u)), some (.int (nI k)), none] [] (gm_m s) Q := by
  have h0 := h
  obtain ⟨hY, hk, hk2, hcs, hh⟩ := h
  simp only [E_X12_laidBy_0, E_X12_laidBy_1, rc_137, List.map_nil, List.map_cons, List.sum_cons, List.sum_nil, gcat_i, gcat_r, gcat_l, Nat.reduceAdd, Nat.reduceLeDiff, Nat.zero_le, Option.toList, List.cons_append, List.nil_append, gnk_i, gnk_r, gnk_n, gi_1, Nat.reduceLT, if_true, if_false]
  refine m_save hk hk2 hY (fun s1 hA1 hK1 hY1 => ?_)
  simp only [E_X12_laidBy_4, E_X12_laidBy_5, List.map_nil, List.map_cons, List.sum_cons, List.sum_nil, gcat_i, gcat_r, gcat_l, Nat.reduceAdd, Nat.reduceLeDiff, Nat.zero_le, Option.toList, List.cons_append, List.nil_append, gnk_i, gnk_r, gnk_n, gi_1, Nat.reduceLT, if_true, if_false]
  rw [← nI_0]
  refine m_cut_loop hu p.1.2.2 0 s1 p (by omega) hk h3 hA1 hK1 hY1 (fun s2 l3 hA2 hK2 hY2 => ?_)
  have gn : (gA_cut u p.1.2.2 0 p).1 = p.1 := gA_cut_n
  have hko := gA_cut_ok (u := u) (m := p.1.2.2) (t := 0) hk
  simp only [E_X12_laidBy_4, E_X12_laidBy_5, E_X12_laidBy_7, E_X12_laidBy_8, E_X12_laidBy_11, E_X12_laidBy_14, E_X12_laidBy_15, E_X12_laidBy_18, E_X12_laidBy_19, E_X12_laidBy_20, E_X12_laidBy_23, E_X12_laidBy_24, E_X12_laidBy_27, E_X12_laidBy_28, E_X12_laidBy_29, E_X12_laidBy_32, E_X12_laidBy_33, E_X12_laidBy_34, E_X12_laidBy_35, E_X12_laidBy_38, E_X12_laidBy_39, E_X12_laidBy_40, E_X12_laidBy_43, E_X12_laidBy_46, E_X12_laidBy_47, E_X12_laidBy_50, E_X12_laidBy_51, E_X12_laidBy_53, E_X12_laidBy_54, E_X12_laidBy_57, E_X12_laidBy_60, E_X12_laidBy_61, E_X12_laidBy_62, E_X12_laidBy_65, E_X12_laidBy_66, E_X12_laidBy_67, E_X12_laidBy_68, E_X12_laidBy_71, E_X12_laidBy_74, E_X12_laidBy_75, E_X12_laidBy_76, E_X12_laidBy_79, E_X12_laidBy_80, rc_137, List.map_nil, List.map_cons, List.sum_cons, List.sum_nil, gcat_i, gcat_r, gcat_l, Nat.reduceAdd, Nat.reduceLeDiff, Nat.zero_le, Option.toList, List.cons_append, List.nil_append, gnk_i, gnk_r, gnk_n, gi_1, Nat.reduceLT, if_true, if_false]
  refine m_go hcs hko (gA_cut_k2 hk2) (by rw [gn]; omega) hY2 (fun s3 hG3 hY3 => ?_)
  have gk : gA_ok (gA_go k (gA_cut u p.1.2.2 0 p)) := gA_go_ok hko (by rw [gn]; omega)
  have hso := fun (z : Int32) (Q : Option Value → gc_M → Prop) => m_setOf (w := w) (d := d + 6) (z := z) (Q := Q) hY3.1 gk
  have hcn := fun (z : Int32) (Q : Option Value → gc_M → Prop) => m_cnt (w := w) (d := d + 5) (s := s3) (z := z) (Q := Q) gk
  simp only [E_X12_laidBy_4, E_X12_laidBy_5, E_X12_laidBy_7, E_X12_laidBy_8, E_X12_laidBy_11, E_X12_laidBy_14, E_X12_laidBy_15, E_X12_laidBy_18, E_X12_laidBy_19, E_X12_laidBy_20, E_X12_laidBy_23, E_X12_laidBy_24, E_X12_laidBy_27, E_X12_laidBy_28, E_X12_laidBy_29, E_X12_laidBy_32, E_X12_laidBy_33, E_X12_laidBy_34, E_X12_laidBy_35, E_X12_laidBy_38, E_X12_laidBy_39, E_X12_laidBy_40, E_X12_laidBy_43, E_X12_laidBy_46, E_X12_laidBy_47, E_X12_laidBy_50, E_X12_laidBy_51, E_X12_laidBy_53, E_X12_laidBy_54, E_X12_laidBy_57, E_X12_laidBy_60, E_X12_laidBy_61, E_X12_laidBy_62, E_X12_laidBy_65, E_X12_laidBy_66, E_X12_laidBy_67, E_X12_laidBy_68, E_X12_laidBy_71, E_X12_laidBy_74, E_X12_laidBy_75, E_X12_laidBy_76, E_X12_laidBy_79, E_X12_laidBy_80, rc_137, hso, hcn, List.map_nil, List.map_cons, List.sum_cons, List.sum_nil, gcat_i, gcat_r, gcat_l, Nat.reduceAdd, Nat.reduceLeDiff, Nat.zero_le, Option.toList, List.cons_append, List.nil_append, gnk_i, gnk_r, gnk_n, gi_1, Nat.reduceLT, if_true, if_false]
  refine m_put hk hY (mA_trans hA2 (mA_G hG3)) (mKp_G hK2 hG3) (fun s4 hA4 hY4 => ?_)
  simp only [E_X12_laidBy_4, E_X12_laidBy_5, E_X12_laidBy_7, E_X12_laidBy_8, E_X12_laidBy_11, E_X12_laidBy_14, E_X12_laidBy_15, E_X12_laidBy_18, E_X12_laidBy_19, E_X12_laidBy_20, E_X12_laidBy_23, E_X12_laidBy_24, E_X12_laidBy_27, E_X12_laidBy_28, E_X12_laidBy_29, E_X12_laidBy_32, E_X12_laidBy_33, E_X12_laidBy_34, E_X12_laidBy_35, E_X12_laidBy_38, E_X12_laidBy_39, E_X12_laidBy_40, E_X12_laidBy_43, E_X12_laidBy_46, E_X12_laidBy_47, E_X12_laidBy_50, E_X12_laidBy_51, E_X12_laidBy_53, E_X12_laidBy_54, E_X12_laidBy_57, E_X12_laidBy_60, E_X12_laidBy_61, E_X12_laidBy_62, E_X12_laidBy_65, E_X12_laidBy_66, E_X12_laidBy_67, E_X12_laidBy_68, E_X12_laidBy_71, E_X12_laidBy_74, E_X12_laidBy_75, E_X12_laidBy_76, E_X12_laidBy_79, E_X12_laidBy_80, List.map_nil, List.map_cons, List.sum_cons, List.sum_nil, gcat_i, gcat_r, gcat_l, Nat.reduceAdd, Nat.reduceLeDiff, Nat.zero_le, Option.toList, List.cons_append, List.nil_append, gnk_i, gnk_r, gnk_n, gi_1, Nat.reduceLT, if_true, if_false]
  exact hq s4 hA4 (mYY_of h0 hY4)
theorem gpc_lt : ∀ u, u < 256 → gpc u < 2 ^ 31 := fun u h => by have := gpc_le u h; omega
theorem m_crew_loop {s0 : gm_S} (h3 : gA_k3 p) (hk60 : k ≤ 60) (hq : ∀ s', mA s0 s' → mYY s' o cs p → Q (some (.int (a_crew p k))) (gm_m s')) : ∀ (m u : Nat) (f : Option Nat) (s : gm_S), u + m = 2 ^ p.1.2.1 → (∀ g, f = some g → g < 64) → mA s0 s → mYY s o cs p → gA_cw p k m u f = gA_cw p k (2 ^ p.1.2.1) 0 none → gc_X w (d + 8) 167 13 [some (.ref 137), some (.int (nI k)), some (.int (gA_cnt (gA_go k p) 2)), some (.int (gp_i f (-5))), some (.int (nI u))] [] (gm_m s) Q := by
  intro m
  induction m with
  | zero =>
    intro u f s hu hf hA h he
    have k6 := h.2.1.1
    have h0 := h.1.1.1
    have e : u = 2 ^ p.1.2.1 := by omega
    have hp : 2 ^ p.1.2.1 ≤ 2 ^ 6 := Nat.pow_le_pow_right (by omega) k6
    have e1 : (1 : Int32) <<< (nI p.1.2.1 &&& 31) = nI (1 * 2 ^ p.1.2.1) := pk_shlN (n := 1) (nI p.1.2.1 &&& 31) p.1.2.1 (s_l _ (by omega)) (by omega)
    rw [Nat.one_mul] at e1
    rw [E_X12_crew_13]
    simp only [E_X12_crew_0, E_X12_crew_1, E_X12_crew_2, E_X12_crew_3, E_X12_crew_6, E_X12_crew_7, E_X12_crew_9, E_X12_crew_10, E_X12_crew_11, E_X12_crew_15, E_X12_crew_16, E_X12_crew_17, E_X12_crew_20, E_X12_crew_21, E_X12_crew_24, E_X12_crew_25, E_X12_crew_28, E_X12_crew_29, E_X12_crew_31, E_X12_crew_34, E_X12_crew_35, E_X12_crew_36, E_X12_crew_39, E_X12_crew_42, E_X12_crew_45, E_X12_crew_46, E_X12_crew_48, E_X12_crew_49, E_X12_crew_52, E_X12_crew_53, E_X12_crew_56, E_X12_crew_58, E_X12_crew_61, E_X12_crew_62, E_X12_crew_63, E_X12_crew_66, E_X12_crew_69, E_X12_crew_70, rk_137, rg_137_0, h0, e1, nI_le (a := 2 ^ p.1.2.1) (b := u) (by omega) (by omega), gnk_i, gnk_r, gnk_n, gi_1, Nat.reduceLT, if_true, if_false]
    have hq' := hq s hA h
    unfold a_crew at hq'
    rw [← he] at hq'
    exact hq'
  | succ m ih =>
    intro u f s hu hf hA h he
    have k6 := h.2.1.1
    have h0 := h.1.1.1
    have hp : 2 ^ p.1.2.1 ≤ 2 ^ 6 := Nat.pow_le_pow_right (by omega) k6
    have e1 : (1 : Int32) <<< (nI p.1.2.1 &&& 31) = nI (1 * 2 ^ p.1.2.1) := pk_shlN (n := 1) (nI p.1.2.1 &&& 31) p.1.2.1 (s_l _ (by omega)) (by omega)
    rw [Nat.one_mul] at e1
    have hge : ¬ nI (2 ^ p.1.2.1) ≤ nI u := nI_ge (by omega) (by omega)
    have hi := ih (u + 1)
    rw [nI_succ] at hi
    rw [gA_cw] at he
    have hbu := fun (Q : Option Value → gc_M → Prop) => m_bits (w := w) (d := d + 6) (s := s) (n := u) (Q := Q) (by omega)
    rw [E_X12_crew_13]
    by_cases hE : ∃ g, f = some g ∧ gpc g ≤ gpc u
    · rw [if_pos hE] at he
      obtain ⟨g, e, hle⟩ := hE
      have hg := hf g e
      have hbg := fun (Q : Option Value → gc_M → Prop) => m_bits (w := w) (d := d + 6) (s := s) (n := g) (Q := Q) (by omega)
      have hnl : ¬ nI (gpc u) < nI (gpc g) := nI_nlt hle (gpc_lt u (by omega))
      have hng : ¬ nI g < 0 := nI_pos (by omega)
      subst e
      have hi2 := hi (some g) s (by omega) hf hA h he
      simp only [gp_i] at hi2
      simp only [E_X12_crew_0, E_X12_crew_1, E_X12_crew_2, E_X12_crew_3, E_X12_crew_6, E_X12_crew_7, E_X12_crew_9, E_X12_crew_10, E_X12_crew_11, E_X12_crew_15, E_X12_crew_16, E_X12_crew_17, E_X12_crew_20, E_X12_crew_21, E_X12_crew_24, E_X12_crew_25, E_X12_crew_28, E_X12_crew_29, E_X12_crew_31, E_X12_crew_34, E_X12_crew_35, E_X12_crew_36, E_X12_crew_39, E_X12_crew_42, E_X12_crew_45, E_X12_crew_46, E_X12_crew_48, E_X12_crew_49, E_X12_crew_52, E_X12_crew_53, E_X12_crew_56, E_X12_crew_58, E_X12_crew_61, E_X12_crew_62, E_X12_crew_63, E_X12_crew_66, E_X12_crew_69, E_X12_crew_70, rk_137, rc_137, rg_137_0, h0, e1, hge, gp_i, hbu, hbg, hnl, hng, List.map_nil, List.map_cons, List.sum_cons, List.sum_nil, gcat_i, gcat_r, gcat_l, Nat.reduceAdd, Nat.reduceLeDiff, Nat.zero_le, Option.toList, List.cons_append, List.nil_append, gnk_i, gnk_r, gnk_n, gi_1, Nat.reduceLT, if_true, if_false]
      exact hi2
    · rw [if_neg hE] at he
      have tail : ∀ s1, mA s0 s1 → mYY s1 o cs p → gc_X w (d + 8) 167 45 [some (.ref 137), some (.int (nI k)), some (.int (gA_cnt (gA_go k p) 2)), some (.int (gp_i f (-5))), some (.int (nI u))] [] (gm_m s1) Q := by
        intro s1 hA1 h1
        simp only [E_X12_crew_45, E_X12_crew_46, E_X12_crew_48, E_X12_crew_49, rc_137, List.map_nil, List.map_cons, List.sum_cons, List.sum_nil, gcat_i, gcat_r, gcat_l, Nat.reduceAdd, Nat.reduceLeDiff, Nat.zero_le, Option.toList, List.cons_append, List.nil_append, gnk_i, gnk_r, gnk_n, gi_1, Nat.reduceLT, if_true, if_false]
        refine m_laidBy (by omega) h1 h3 hk60 (fun s2 hA2 h2 => ?_)
        by_cases hL : gA_cnt (gA_go k p) 2 ≤ a_laid p u k
        · rw [if_pos hL] at he
          have hL2 : ¬ a_laid p u k < gA_cnt (gA_go k p) 2 := by
            rw [gx_le] at hL
            rw [gx_lt]
            omega
          simp only [E_X12_crew_0, E_X12_crew_1, E_X12_crew_2, E_X12_crew_3, E_X12_crew_6, E_X12_crew_7, E_X12_crew_9, E_X12_crew_10, E_X12_crew_11, E_X12_crew_15, E_X12_crew_16, E_X12_crew_17, E_X12_crew_20, E_X12_crew_21, E_X12_crew_24, E_X12_crew_25, E_X12_crew_28, E_X12_crew_29, E_X12_crew_31, E_X12_crew_34, E_X12_crew_35, E_X12_crew_36, E_X12_crew_39, E_X12_crew_42, E_X12_crew_46, E_X12_crew_48, E_X12_crew_49, E_X12_crew_52, E_X12_crew_53, E_X12_crew_56, E_X12_crew_58, E_X12_crew_61, E_X12_crew_62, E_X12_crew_63, E_X12_crew_66, E_X12_crew_69, E_X12_crew_70, hL2, List.map_nil, List.map_cons, List.sum_cons, List.sum_nil, gcat_i, gcat_r, gcat_l, Nat.reduceAdd, Nat.reduceLeDiff, Nat.zero_le, Option.toList, List.cons_append, List.nil_append, gnk_i, gnk_r, gnk_n, gi_1, Nat.reduceLT, if_true, if_false]
          exact hi (some u) s2 (by omega) (fun g e => by cases e; omega) (mA_trans hA1 hA2) h2 he
        · rw [if_neg hL] at he
          have hL2 : a_laid p u k < gA_cnt (gA_go k p) 2 := by
            rw [gx_le] at hL
            rw [gx_lt]
            omega
          simp only [E_X12_crew_0, E_X12_crew_1, E_X12_crew_2, E_X12_crew_3, E_X12_crew_6, E_X12_crew_7, E_X12_crew_9, E_X12_crew_10, E_X12_crew_11, E_X12_crew_15, E_X12_crew_16, E_X12_crew_17, E_X12_crew_20, E_X12_crew_21, E_X12_crew_24, E_X12_crew_25, E_X12_crew_28, E_X12_crew_29, E_X12_crew_31, E_X12_crew_34, E_X12_crew_35, E_X12_crew_36, E_X12_crew_39, E_X12_crew_42, E_X12_crew_46, E_X12_crew_48, E_X12_crew_49, E_X12_crew_52, E_X12_crew_53, E_X12_crew_56, E_X12_crew_58, E_X12_crew_61, E_X12_crew_62, E_X12_crew_63, E_X12_crew_66, E_X12_crew_69, E_X12_crew_70, hL2, List.map_nil, List.map_cons, List.sum_cons, List.sum_nil, gcat_i, gcat_r, gcat_l, Nat.reduceAdd, Nat.reduceLeDiff, Nat.zero_le, Option.toList, List.cons_append, List.nil_append, gnk_i, gnk_r, gnk_n, gi_1, Nat.reduceLT, if_true, if_false]
          exact hi f s2 (by omega) hf (mA_trans hA1 hA2) h2 he
      cases f with
      | none =>
        simp only [E_X12_crew_0, E_X12_crew_1, E_X12_crew_2, E_X12_crew_3, E_X12_crew_6, E_X12_crew_7, E_X12_crew_9, E_X12_crew_10, E_X12_crew_11, E_X12_crew_15, E_X12_crew_16, E_X12_crew_17, E_X12_crew_20, E_X12_crew_21, E_X12_crew_24, E_X12_crew_25, E_X12_crew_28, E_X12_crew_29, E_X12_crew_31, E_X12_crew_34, E_X12_crew_35, E_X12_crew_36, E_X12_crew_39, E_X12_crew_42, E_X12_crew_46, E_X12_crew_48, E_X12_crew_49, E_X12_crew_52, E_X12_crew_53, E_X12_crew_56, E_X12_crew_58, E_X12_crew_61, E_X12_crew_62, E_X12_crew_63, E_X12_crew_66, E_X12_crew_69, E_X12_crew_70, rk_137, rc_137, rg_137_0, h0, e1, hge, gp_i, nI_neg5, List.map_nil, List.map_cons, List.sum_cons, List.sum_nil, gcat_i, gcat_r, gcat_l, Nat.reduceAdd, Nat.reduceLeDiff, Nat.zero_le, Option.toList, List.cons_append, List.nil_append, gnk_i, gnk_r, gnk_n, gi_1, Nat.reduceLT, if_true, if_false]
        exact tail s hA h
      | some g =>
        have hg := hf g rfl
        have hbg := fun (Q : Option Value → gc_M → Prop) => m_bits (w := w) (d := d + 6) (s := s) (n := g) (Q := Q) (by omega)
        have hnl : nI (gpc u) < nI (gpc g) := nI_lt (by
          have : ¬ gpc g ≤ gpc u := fun e => hE ⟨g, rfl, e⟩
          omega) (gpc_lt g (by omega))
        have hng : ¬ nI g < 0 := nI_pos (by omega)
        simp only [E_X12_crew_0, E_X12_crew_1, E_X12_crew_2, E_X12_crew_3, E_X12_crew_6, E_X12_crew_7, E_X12_crew_9, E_X12_crew_10, E_X12_crew_11, E_X12_crew_15, E_X12_crew_16, E_X12_crew_17, E_X12_crew_20, E_X12_crew_21, E_X12_crew_24, E_X12_crew_25, E_X12_crew_28, E_X12_crew_29, E_X12_crew_31, E_X12_crew_34, E_X12_crew_35, E_X12_crew_36, E_X12_crew_39, E_X12_crew_42, E_X12_crew_46, E_X12_crew_48, E_X12_crew_49, E_X12_crew_52, E_X12_crew_53, E_X12_crew_56, E_X12_crew_58, E_X12_crew_61, E_X12_crew_62, E_X12_crew_63, E_X12_crew_66, E_X12_crew_69, E_X12_crew_70, rk_137, rc_137, rg_137_0, h0, e1, hge, gp_i, hbu, hbg, hnl, hng, List.map_nil, List.map_cons, List.sum_cons, List.sum_nil, gcat_i, gcat_r, gcat_l, Nat.reduceAdd, Nat.reduceLeDiff, Nat.zero_le, Option.toList, List.cons_append, List.nil_append, gnk_i, gnk_r, gnk_n, gi_1, Nat.reduceLT, if_true, if_false]
        exact tail s hA h
theorem m_crew (h : mYY s o cs p) (h3 : gA_k3 p) (hk60 : k ≤ 60) (hq : ∀ s', mA s s' → mYY s' o cs p → Q (some (.int (a_crew p k))) (gm_m s')) : gc_X w (d + 8) 167 0 [some (.ref 137), some (.int (nI k)), none, none, none] [] (gm_m s) Q := by
  simp only [E_X12_crew_0, E_X12_crew_1, E_X12_crew_2, E_X12_crew_3, E_X12_crew_6, E_X12_crew_7, E_X12_crew_9, E_X12_crew_10, E_X12_crew_11, E_X12_crew_15, E_X12_crew_16, E_X12_crew_17, E_X12_crew_20, E_X12_crew_21, E_X12_crew_24, E_X12_crew_25, E_X12_crew_28, E_X12_crew_29, E_X12_crew_31, E_X12_crew_34, E_X12_crew_35, E_X12_crew_36, E_X12_crew_39, E_X12_crew_42, E_X12_crew_45, E_X12_crew_46, E_X12_crew_48, E_X12_crew_49, E_X12_crew_52, E_X12_crew_53, E_X12_crew_56, E_X12_crew_58, E_X12_crew_61, E_X12_crew_62, E_X12_crew_63, E_X12_crew_66, E_X12_crew_69, E_X12_crew_70, rc_137, List.map_nil, List.map_cons, List.sum_cons, List.sum_nil, gcat_i, gcat_r, gcat_l, Nat.reduceAdd, Nat.reduceLeDiff, Nat.zero_le, Option.toList, List.cons_append, List.nil_append, gnk_i, gnk_r, gnk_n, gi_1, Nat.reduceLT, if_true, if_false]
  refine m_on h (fun s' hA' h' => ?_)
  rw [a_on_0 hk60]
  simp only [E_X12_crew_0, E_X12_crew_1, E_X12_crew_2, E_X12_crew_3, E_X12_crew_6, E_X12_crew_7, E_X12_crew_9, E_X12_crew_10, E_X12_crew_11, E_X12_crew_15, E_X12_crew_16, E_X12_crew_17, E_X12_crew_20, E_X12_crew_21, E_X12_crew_24, E_X12_crew_25, E_X12_crew_28, E_X12_crew_29, E_X12_crew_31, E_X12_crew_34, E_X12_crew_35, E_X12_crew_36, E_X12_crew_39, E_X12_crew_42, E_X12_crew_45, E_X12_crew_46, E_X12_crew_48, E_X12_crew_49, E_X12_crew_52, E_X12_crew_53, E_X12_crew_56, E_X12_crew_58, E_X12_crew_61, E_X12_crew_62, E_X12_crew_63, E_X12_crew_66, E_X12_crew_69, E_X12_crew_70, List.map_nil, List.map_cons, List.sum_cons, List.sum_nil, gcat_i, gcat_r, gcat_l, Nat.reduceAdd, Nat.reduceLeDiff, Nat.zero_le, Option.toList, List.cons_append, List.nil_append, gnk_i, gnk_r, gnk_n, gi_1, Nat.reduceLT, if_true, if_false]
  rw [← nI_0]
  exact m_crew_loop (s0 := s) h3 hk60 hq (2 ^ p.1.2.1) 0 none s' (by omega) (fun g e => by cases e) hA' h' rfl
end
/-- best: change or crew -/
def a_best (p : gA) (n x : Int32) : Int32 :=
  if gB_in x 0 1 = false then -1
  else if x = 0 then (if gB_in n 1 20 = false then -2 else a_change p n.toNatClampNeg)
  else if gB_in n 1 12 = false then -2 else a_crew p n.toNatClampNeg
section
variable {w : Nat × (Nat → Int32)} {d : Nat} {s : gm_S} {p : gA} {Q : Option Value → gc_M → Prop} {cs : List fC} {o : Option Nat} {x n : Int32}
theorem m_best (h : mYY s o cs p) (h3 : gA_k3 p) (hq : ∀ s', mA s s' → mYY s' o cs p → Q (some (.int (a_best p n x))) (gm_m s')) : gc_X w (d + 9) 168 0 [some (.ref 137), some (.int n), some (.int x)] [] (gm_m s) Q := by
  have hin := fun (a b c : Int32) (Q : Option Value → gc_M → Prop) => m_in (w := w) (d := d + 8) (s := s) (x := a) (y := b) (z := c) (Q := Q)
  unfold a_best at hq
  cases b1 : gB_in x 0 1 with
  | false =>
    rw [b1, if_pos rfl] at hq
    simp only [E_X12_best_0, E_X12_best_1, E_X12_best_2, E_X12_best_3, E_X12_best_4, E_X12_best_7, E_X12_best_10, E_X12_best_11, E_X12_best_12, E_X12_best_13, E_X12_best_14, E_X12_best_15, E_X12_best_16, E_X12_best_19, E_X12_best_21, E_X12_best_24, E_X12_best_26, E_X12_best_29, E_X12_best_32, E_X12_best_34, E_X12_best_35, E_X12_best_36, E_X12_best_39, E_X12_best_40, E_X12_best_41, E_X12_best_44, E_X12_best_47, E_X12_best_48, E_X12_best_49, E_X12_best_52, rc_137, hin, b1, gb_0, List.map_nil, List.map_cons, List.sum_cons, List.sum_nil, gcat_i, gcat_r, gcat_l, Nat.reduceAdd, Nat.reduceLeDiff, Nat.zero_le, Option.toList, List.cons_append, List.nil_append, gnk_i, gnk_r, gnk_n, gi_1, Nat.reduceLT, if_true, if_false]
    exact hq s mA_refl h
  | true =>
    rw [b1, if_neg (by decide)] at hq
    by_cases x0 : x = 0
    · rw [if_pos x0] at hq
      cases b2 : gB_in n 1 20 with
      | false =>
        rw [b2, if_pos rfl] at hq
        simp only [E_X12_best_0, E_X12_best_1, E_X12_best_2, E_X12_best_3, E_X12_best_4, E_X12_best_7, E_X12_best_10, E_X12_best_11, E_X12_best_12, E_X12_best_13, E_X12_best_14, E_X12_best_15, E_X12_best_16, E_X12_best_19, E_X12_best_21, E_X12_best_24, E_X12_best_26, E_X12_best_29, E_X12_best_32, E_X12_best_34, E_X12_best_35, E_X12_best_36, E_X12_best_39, E_X12_best_40, E_X12_best_41, E_X12_best_44, E_X12_best_47, E_X12_best_48, E_X12_best_49, E_X12_best_52, rc_137, hin, b1, b2, x0, gb_0, gb_1, g1_0, show gB_in 0 0 1 = true from rfl, List.map_nil, List.map_cons, List.sum_cons, List.sum_nil, gcat_i, gcat_r, gcat_l, Nat.reduceAdd, Nat.reduceLeDiff, Nat.zero_le, Option.toList, List.cons_append, List.nil_append, gnk_i, gnk_r, gnk_n, gi_1, Nat.reduceLT, if_true, if_false]
        exact hq s mA_refl h
      | true =>
        rw [b2, if_neg (by decide)] at hq
        obtain ⟨j, hj, hj2, e⟩ := (gB_ab (a := 1) (b := 20) (by omega) (by omega)).mp b2
        subst e
        have ek : (nI j).toNatClampNeg = j := nI_clamp (by omega)
        rw [ek] at hq
        simp only [E_X12_best_0, E_X12_best_1, E_X12_best_2, E_X12_best_3, E_X12_best_4, E_X12_best_7, E_X12_best_10, E_X12_best_11, E_X12_best_12, E_X12_best_13, E_X12_best_14, E_X12_best_15, E_X12_best_16, E_X12_best_19, E_X12_best_21, E_X12_best_24, E_X12_best_26, E_X12_best_29, E_X12_best_32, E_X12_best_34, E_X12_best_35, E_X12_best_36, E_X12_best_39, E_X12_best_40, E_X12_best_41, E_X12_best_44, E_X12_best_47, E_X12_best_48, E_X12_best_49, E_X12_best_52, rc_137, hin, b1, b2, x0, gb_0, gb_1, g1_0, show gB_in 0 0 1 = true from rfl, List.map_nil, List.map_cons, List.sum_cons, List.sum_nil, gcat_i, gcat_r, gcat_l, Nat.reduceAdd, Nat.reduceLeDiff, Nat.zero_le, Option.toList, List.cons_append, List.nil_append, gnk_i, gnk_r, gnk_n, gi_1, Nat.reduceLT, if_true, if_false]
        refine m_changed h (by omega) (fun s' hA' h' => ?_)
        simp only [E_X12_best_0, E_X12_best_1, E_X12_best_2, E_X12_best_3, E_X12_best_4, E_X12_best_7, E_X12_best_10, E_X12_best_11, E_X12_best_12, E_X12_best_13, E_X12_best_14, E_X12_best_15, E_X12_best_16, E_X12_best_19, E_X12_best_21, E_X12_best_24, E_X12_best_26, E_X12_best_29, E_X12_best_32, E_X12_best_34, E_X12_best_35, E_X12_best_36, E_X12_best_39, E_X12_best_40, E_X12_best_41, E_X12_best_44, E_X12_best_47, E_X12_best_48, E_X12_best_49, E_X12_best_52, List.map_nil, List.map_cons, List.sum_cons, List.sum_nil, gcat_i, gcat_r, gcat_l, Nat.reduceAdd, Nat.reduceLeDiff, Nat.zero_le, Option.toList, List.cons_append, List.nil_append, gnk_i, gnk_r, gnk_n, gi_1, Nat.reduceLT, if_true, if_false]
        exact hq s' hA' h'
    · rw [if_neg x0] at hq
      cases b2 : gB_in n 1 12 with
      | false =>
        rw [b2, if_pos rfl] at hq
        simp only [E_X12_best_0, E_X12_best_1, E_X12_best_2, E_X12_best_3, E_X12_best_4, E_X12_best_7, E_X12_best_10, E_X12_best_11, E_X12_best_12, E_X12_best_13, E_X12_best_14, E_X12_best_15, E_X12_best_16, E_X12_best_19, E_X12_best_21, E_X12_best_24, E_X12_best_26, E_X12_best_29, E_X12_best_32, E_X12_best_34, E_X12_best_35, E_X12_best_36, E_X12_best_39, E_X12_best_40, E_X12_best_41, E_X12_best_44, E_X12_best_47, E_X12_best_48, E_X12_best_49, E_X12_best_52, rc_137, hin, b1, b2, x0, gb_0, gb_1, g1_0, List.map_nil, List.map_cons, List.sum_cons, List.sum_nil, gcat_i, gcat_r, gcat_l, Nat.reduceAdd, Nat.reduceLeDiff, Nat.zero_le, Option.toList, List.cons_append, List.nil_append, gnk_i, gnk_r, gnk_n, gi_1, Nat.reduceLT, if_true, if_false]
        exact hq s mA_refl h
      | true =>
        rw [b2, if_neg (by decide)] at hq
        obtain ⟨j, hj, hj2, e⟩ := (gB_ab (a := 1) (b := 12) (by omega) (by omega)).mp b2
        subst e
        have ek : (nI j).toNatClampNeg = j := nI_clamp (by omega)
        rw [ek] at hq
        simp only [E_X12_best_0, E_X12_best_1, E_X12_best_2, E_X12_best_3, E_X12_best_4, E_X12_best_7, E_X12_best_10, E_X12_best_11, E_X12_best_12, E_X12_best_13, E_X12_best_14, E_X12_best_15, E_X12_best_16, E_X12_best_19, E_X12_best_21, E_X12_best_24, E_X12_best_26, E_X12_best_29, E_X12_best_32, E_X12_best_34, E_X12_best_35, E_X12_best_36, E_X12_best_39, E_X12_best_40, E_X12_best_41, E_X12_best_44, E_X12_best_47, E_X12_best_48, E_X12_best_49, E_X12_best_52, rc_137, hin, b1, b2, x0, gb_0, gb_1, g1_0, List.map_nil, List.map_cons, List.sum_cons, List.sum_nil, gcat_i, gcat_r, gcat_l, Nat.reduceAdd, Nat.reduceLeDiff, Nat.zero_le, Option.toList, List.cons_append, List.nil_append, gnk_i, gnk_r, gnk_n, gi_1, Nat.reduceLT, if_true, if_false]
        refine m_crew h h3 (by omega) (fun s' hA' h' => ?_)
        simp only [E_X12_best_0, E_X12_best_1, E_X12_best_2, E_X12_best_3, E_X12_best_4, E_X12_best_7, E_X12_best_10, E_X12_best_11, E_X12_best_12, E_X12_best_13, E_X12_best_14, E_X12_best_15, E_X12_best_16, E_X12_best_19, E_X12_best_21, E_X12_best_24, E_X12_best_26, E_X12_best_29, E_X12_best_32, E_X12_best_34, E_X12_best_35, E_X12_best_36, E_X12_best_39, E_X12_best_40, E_X12_best_41, E_X12_best_44, E_X12_best_47, E_X12_best_48, E_X12_best_49, E_X12_best_52, List.map_nil, List.map_cons, List.sum_cons, List.sum_nil, gcat_i, gcat_r, gcat_l, Nat.reduceAdd, Nat.reduceLeDiff, Nat.zero_le, Option.toList, List.cons_append, List.nil_append, gnk_i, gnk_r, gnk_n, gi_1, Nat.reduceLT, if_true, if_false]
        exact hq s' hA' h'
end
