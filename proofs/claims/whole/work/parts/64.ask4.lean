/-! the reference: fractions, odds, mean -/
theorem gI_divN {a b : Nat} (ha : a < 2 ^ 31) (hb : b < 2 ^ 31) (h0 : 0 < b) : ¬ nI b = 0 := nI_ne0 h0 hb
/-- a fraction in lowest terms -/
def a_low (a b : Nat) (x : Int32) : Int64 := if x = 0 then (nI (a / Nat.gcd a b)).toInt64 else (nI (b / Nat.gcd a b)).toInt64
def gNO : Int64 := -9223372036854775808
section
variable {w : Nat × (Nat → Int32)} {d t : Nat} {s : gm_S} {p : gA} {Q : Option Value → gc_M → Prop} {cs : List fC} {o : Option Nat} {x : Int32}
theorem m_div_loop : ∀ (n a b : Nat) (l1 l2 l5 : Option Value), b ≤ n → a < 2 ^ 31 → b < 2 ^ 31 → gm_nk l2 = true → gc_X w d 174 5 [some (.ref 137), l1, l2, some (.int (nI a)), some (.int (nI b)), l5] [] (gm_m s) Q = Q (some (.int (nI (Nat.gcd a b)))) (gm_m s) := by
  intro n
  induction n with
  | zero =>
    intro a b l1 l2 l5 hb ha hb2 hn
    have e : b = 0 := by omega
    subst e
    rw [E_X12_divisor_5]
    simp only [E_X12_divisor_0, E_X12_divisor_1, E_X12_divisor_2, E_X12_divisor_3, E_X12_divisor_7, E_X12_divisor_10, E_X12_divisor_11, E_X12_divisor_13, E_X12_divisor_14, E_X12_divisor_16, E_X12_divisor_18, E_X12_divisor_19, E_X12_divisor_21, E_X12_divisor_23, E_X12_divisor_26, E_X12_divisor_27, nI_0, Nat.gcd_zero_right, gnk_i, gnk_r, gnk_n, gi_1, Nat.reduceLT, if_true, if_false]
  | succ n ih =>
    intro a b l1 l2 l5 hb ha hb2 hn
    by_cases h0 : b = 0
    · subst h0
      rw [E_X12_divisor_5]
      simp only [E_X12_divisor_0, E_X12_divisor_1, E_X12_divisor_2, E_X12_divisor_3, E_X12_divisor_7, E_X12_divisor_10, E_X12_divisor_11, E_X12_divisor_13, E_X12_divisor_14, E_X12_divisor_16, E_X12_divisor_18, E_X12_divisor_19, E_X12_divisor_21, E_X12_divisor_23, E_X12_divisor_26, E_X12_divisor_27, nI_0, Nat.gcd_zero_right, gnk_i, gnk_r, gnk_n, gi_1, Nat.reduceLT, if_true, if_false]
    · have hz : ¬ nI b = 0 := nI_ne0 (by omega) hb2
      have hm := Nat.mod_lt a (by omega : 0 < b)
      have hr : nI a - nI a / nI b * nI b = nI (a % b) := gI_mod ha hb2
      have hi := fun l5 => ih b (a % b) l1 l2 l5 (by omega) hb2 (by omega) hn
      rw [E_X12_divisor_5]
      simp only [E_X12_divisor_0, E_X12_divisor_1, E_X12_divisor_2, E_X12_divisor_3, E_X12_divisor_7, E_X12_divisor_10, E_X12_divisor_11, E_X12_divisor_13, E_X12_divisor_14, E_X12_divisor_16, E_X12_divisor_18, E_X12_divisor_19, E_X12_divisor_21, E_X12_divisor_23, E_X12_divisor_26, E_X12_divisor_27, hz, not_false_eq_true, hr, hn, hi, gnk_i, gnk_r, gnk_n, gi_1, Nat.reduceLT, if_true, if_false]
      rw [Nat.gcd_comm b, ← Nat.gcd_rec b a, Nat.gcd_comm]
theorem m_lowest {a b : Nat} (ha : a < 2 ^ 31) (hb : b < 2 ^ 31) (h0 : 0 < b) : gc_X w (d + 1) 175 0 [some (.ref 137), some (.int (nI a)), some (.int (nI b)), some (.int x), none] [] (gm_m s) Q = Q (some (.long (a_low a b x))) (gm_m s) := by
  have hd := fun (Q : Option Value → gc_M → Prop) => m_div_loop (w := w) (d := d) (s := s) (Q := Q) b a b (some (.int (nI a))) (some (.int (nI b))) none (Nat.le_refl _) ha hb gnk_i
  have hg := Nat.gcd_pos_of_pos_right a h0
  have hg2 := Nat.gcd_le_right a h0
  have hz : ¬ nI (Nat.gcd a b) = 0 := nI_ne0 hg (by omega)
  have e1 : nI a / nI (Nat.gcd a b) = nI (a / Nat.gcd a b) := gI_div ha (by omega)
  have e2 : nI b / nI (Nat.gcd a b) = nI (b / Nat.gcd a b) := gI_div hb (by omega)
  unfold a_low
  by_cases hx : x = 0
  · simp only [E_X12_lowest_0, E_X12_lowest_1, E_X12_lowest_2, E_X12_lowest_3, E_X12_lowest_6, E_X12_lowest_8, E_X12_lowest_9, E_X12_lowest_12, E_X12_lowest_13, E_X12_lowest_15, E_X12_lowest_16, E_X12_lowest_17, E_X12_lowest_20, E_X12_lowest_21, E_X12_lowest_23, E_X12_lowest_24, E_X12_lowest_25, E_X12_divisor_0, E_X12_divisor_1, E_X12_divisor_2, E_X12_divisor_3, rc_137, hd, hz, not_false_eq_true, e1, e2, hx, List.map_nil, List.map_cons, List.sum_cons, List.sum_nil, gcat_i, gcat_r, gcat_l, Nat.reduceAdd, Nat.reduceLeDiff, Nat.zero_le, Option.toList, List.cons_append, List.nil_append, gnk_i, gnk_r, gnk_n, gi_1, Nat.reduceLT, if_true, if_false]
  · simp only [E_X12_lowest_0, E_X12_lowest_1, E_X12_lowest_2, E_X12_lowest_3, E_X12_lowest_6, E_X12_lowest_8, E_X12_lowest_9, E_X12_lowest_12, E_X12_lowest_13, E_X12_lowest_15, E_X12_lowest_16, E_X12_lowest_17, E_X12_lowest_20, E_X12_lowest_21, E_X12_lowest_23, E_X12_lowest_24, E_X12_lowest_25, E_X12_divisor_0, E_X12_divisor_1, E_X12_divisor_2, E_X12_divisor_3, rc_137, hd, hz, not_false_eq_true, e1, e2, hx, List.map_nil, List.map_cons, List.sum_cons, List.sum_nil, gcat_i, gcat_r, gcat_l, Nat.reduceAdd, Nat.reduceLeDiff, Nat.zero_le, Option.toList, List.cons_append, List.nil_append, gnk_i, gnk_r, gnk_n, gi_1, Nat.reduceLT, if_true, if_false]
/-- odds: by how many winds one is laid -/
def gOd (p : gA) (t n : Nat) : Nat → Nat → Nat
  | 0, _ => 0
  | m + 1, k => (if (gA_go n (gA_set p 1 (p.1.1 % 4) (nI k))).2.1 14 t = 2 then 1 else 0) + gOd p t n m (k + 1)
theorem gOd_le {p : gA} {t n : Nat} : ∀ {m k : Nat}, gOd p t n m k ≤ m
  | 0, _ => Nat.le_refl _
  | m + 1, k => by
    have := gOd_le (p := p) (t := t) (n := n) (m := m) (k := k + 1)
    unfold gOd
    split <;> omega
theorem m_odds_loop {s0 : gm_S} {n : Nat} {x : Int32} (hn : n ≤ 60) (ht : t < p.1.2.2) : ∀ (m k g : Nat) (s : gm_S) (y : Int32), k + m = 10 → mB s0 s → mYY s o cs (gA_set p 1 (p.1.1 % 4) y) → (∀ s' l7 y', mB s0 s' → mYY s' o cs (gA_set p 1 (p.1.1 % 4) y') → gc_X w (d + 7) 176 111 [some (.ref 137), some (.int (nI t)), some (.int (nI n)), some (.int x), some (.int (nI (p.1.1 % 4))), some (.int (p.2.1 1 (p.1.1 % 4))), some (.int (nI (g + gOd p t n m k))), l7] [] (gm_m s') Q) → gc_X w (d + 7) 176 56 [some (.ref 137), some (.int (nI t)), some (.int (nI n)), some (.int x), some (.int (nI (p.1.1 % 4))), some (.int (p.2.1 1 (p.1.1 % 4))), some (.int (nI g)), some (.int (nI k))] [] (gm_m s) Q := by
  intro m
  induction m with
  | zero =>
    intro k g s y hk hB h hq
    have e : k = 10 := by omega
    subst e
    rw [E_X12_odds_56]
    simp (decide := true) only [E_X12_odds_58, E_X12_odds_60, if_true]
    exact hq s _ y hB h
  | succ m ih =>
    intro k g s y hk10 hB h hq
    have h0 := h
    obtain ⟨hY, hk, hk2, hcs, hh⟩ := h
    have k8 : p.1.2.2 ≤ 8 := hk.2.1
    have hh' : p.1.1 ≤ 9999 := hh
    have i1 : vp_in (nI (p.1.1 % 4)) 4 := vp_in_nI (by omega) (by omega)
    have i2 : (nI (p.1.1 % 4)).toNatClampNeg = p.1.1 % 4 := nI_clamp (by omega)
    have i3 : vp_in (nI t) 8 := vp_in_nI (by omega) (by omega)
    have i4 : (nI t).toNatClampNeg = t := nI_clamp (by omega)
    have hge : ¬ (10 : Int32) ≤ nI k := nI_ge (b := 10) (by omega) (by omega)
    have hi := ih (k + 1)
    rw [nI_succ] at hi
    rw [gOd] at hq
    rw [E_X12_odds_56]
    simp only [E_X12_odds_0, E_X12_odds_1, E_X12_odds_2, E_X12_odds_5, E_X12_odds_8, E_X12_odds_9, E_X12_odds_10, E_X12_odds_11, E_X12_odds_13, E_X12_odds_16, E_X12_odds_19, E_X12_odds_20, E_X12_odds_21, E_X12_odds_22, E_X12_odds_23, E_X12_odds_26, E_X12_odds_29, E_X12_odds_32, E_X12_odds_33, E_X12_odds_34, E_X12_odds_37, E_X12_odds_38, E_X12_odds_39, E_X12_odds_41, E_X12_odds_42, E_X12_odds_45, E_X12_odds_47, E_X12_odds_48, E_X12_odds_50, E_X12_odds_51, E_X12_odds_53, E_X12_odds_54, E_X12_odds_58, E_X12_odds_60, E_X12_odds_63, E_X12_odds_64, E_X12_odds_67, E_X12_odds_68, E_X12_odds_71, E_X12_odds_73, E_X12_odds_75, E_X12_odds_76, E_X12_odds_77, E_X12_odds_78, E_X12_odds_81, E_X12_odds_83, E_X12_odds_84, E_X12_odds_87, E_X12_odds_88, E_X12_odds_89, E_X12_odds_90, E_X12_odds_93, E_X12_odds_94, E_X12_odds_97, E_X12_odds_98, E_X12_odds_99, E_X12_odds_101, E_X12_odds_102, E_X12_odds_105, E_X12_odds_108, E_X12_odds_112, E_X12_odds_115, E_X12_odds_117, E_X12_odds_119, E_X12_odds_120, E_X12_odds_121, E_X12_odds_123, E_X12_odds_125, E_X12_odds_126, E_X12_odds_129, rc_137, hge, List.map_nil, List.map_cons, List.sum_cons, List.sum_nil, gcat_i, gcat_r, gcat_l, Nat.reduceAdd, Nat.reduceLeDiff, Nat.zero_le, Option.toList, List.cons_append, List.nil_append, gnk_i, gnk_r, gnk_n, gi_1, Nat.reduceLT, if_true, if_false]
    refine m_save hk hk2 hY (fun s1 hA1 hK1 hY1 => ?_)
    have hY2 := mY_set13 (i := 1) (t := p.1.1 % 4) (x := nI k) hY1 (by omega) hk.1
    rw [gA_set_set] at hY2
    have hYs := mYY_set (i := 1) (t := p.1.1 % 4) (x := nI k) h0 (by omega)
    rw [gA_set_set] at hYs
    simp only [E_X12_odds_0, E_X12_odds_1, E_X12_odds_2, E_X12_odds_5, E_X12_odds_8, E_X12_odds_9, E_X12_odds_10, E_X12_odds_11, E_X12_odds_13, E_X12_odds_16, E_X12_odds_19, E_X12_odds_20, E_X12_odds_21, E_X12_odds_22, E_X12_odds_23, E_X12_odds_26, E_X12_odds_29, E_X12_odds_32, E_X12_odds_33, E_X12_odds_34, E_X12_odds_37, E_X12_odds_38, E_X12_odds_39, E_X12_odds_41, E_X12_odds_42, E_X12_odds_45, E_X12_odds_47, E_X12_odds_48, E_X12_odds_50, E_X12_odds_51, E_X12_odds_53, E_X12_odds_54, E_X12_odds_58, E_X12_odds_60, E_X12_odds_63, E_X12_odds_64, E_X12_odds_67, E_X12_odds_68, E_X12_odds_71, E_X12_odds_73, E_X12_odds_75, E_X12_odds_76, E_X12_odds_77, E_X12_odds_78, E_X12_odds_81, E_X12_odds_83, E_X12_odds_84, E_X12_odds_87, E_X12_odds_88, E_X12_odds_89, E_X12_odds_90, E_X12_odds_93, E_X12_odds_94, E_X12_odds_97, E_X12_odds_98, E_X12_odds_99, E_X12_odds_101, E_X12_odds_102, E_X12_odds_105, E_X12_odds_108, E_X12_odds_112, E_X12_odds_115, E_X12_odds_117, E_X12_odds_119, E_X12_odds_120, E_X12_odds_121, E_X12_odds_123, E_X12_odds_125, E_X12_odds_126, E_X12_odds_129, rk_137, rc_137, rg_137_3, ra_138, rs_138, i1, i2, List.map_nil, List.map_cons, List.sum_cons, List.sum_nil, gcat_i, gcat_r, gcat_l, Nat.reduceAdd, Nat.reduceLeDiff, Nat.zero_le, Option.toList, List.cons_append, List.nil_append, gnk_i, gnk_r, gnk_n, gi_1, Nat.reduceLT, if_true, if_false]
    refine m_go hcs hYs.2.1 hYs.2.2.1 (by show p.1.1 + n < _; omega) hY2 (fun s2 hG2 hY3 => ?_)
    have gn : (gA_go n (gA_set p 1 (p.1.1 % 4) (nI k))).1 = (p.1.1 + n, p.1.2) := gA_go_n
    obtain ⟨-, -, a14, -, -⟩ := hY3.1.2.2.2.2.2 t (by rw [gn]; exact ht)
    have hAs : mA (gm_si s (137 + 1) (p.1.1 % 4) (nI k)) (gm_si s1 (137 + 1) (p.1.1 % 4) (nI k)) := by
      refine ⟨hA1.1, fun b j q => ?_⟩
      rw [gsi_1, gsi_1]
      split
      · rfl
      · exact hA1.2 b j q
    have hKs : mKp (gm_si s (137 + 1) (p.1.1 % 4) (nI k)) (gm_si s1 (137 + 1) (p.1.1 % 4) (nI k)) := by
      obtain ⟨q1, q2, q3⟩ := mKp_si (a := 137 + 1) (k := p.1.1 % 4) (x := nI k) hK1 (by omega)
      refine ⟨q1.trans (by rw [gsi_1, if_neg (fun e => by omega)]), fun c hc => (q2 c hc).trans (by rw [gsi_1, if_neg (fun e => by omega)]), fun t ht => ?_⟩
      obtain ⟨r1, r2, r3, r4⟩ := q3 t ht
      exact ⟨r1.trans (by rw [gsi_1, if_neg (fun e => by omega)]), r2.trans (by rw [gsi_1, if_neg (fun e => by omega)]), r3.trans (by rw [gsi_1, if_neg (fun e => by omega)]), r4.trans (by rw [gsi_1, if_neg (fun e => by omega)])⟩
    have z0 : nI g + 0 = nI g := Int32.add_zero _
    by_cases hL : (gA_go n (gA_set p 1 (p.1.1 % 4) (nI k))).2.1 14 t = 2
    · rw [if_pos hL, ← Nat.add_assoc] at hq
      simp only [E_X12_odds_0, E_X12_odds_1, E_X12_odds_2, E_X12_odds_5, E_X12_odds_8, E_X12_odds_9, E_X12_odds_10, E_X12_odds_11, E_X12_odds_13, E_X12_odds_16, E_X12_odds_19, E_X12_odds_20, E_X12_odds_21, E_X12_odds_22, E_X12_odds_23, E_X12_odds_26, E_X12_odds_29, E_X12_odds_32, E_X12_odds_33, E_X12_odds_34, E_X12_odds_37, E_X12_odds_38, E_X12_odds_39, E_X12_odds_41, E_X12_odds_42, E_X12_odds_45, E_X12_odds_47, E_X12_odds_48, E_X12_odds_50, E_X12_odds_51, E_X12_odds_53, E_X12_odds_54, E_X12_odds_58, E_X12_odds_60, E_X12_odds_63, E_X12_odds_64, E_X12_odds_67, E_X12_odds_68, E_X12_odds_71, E_X12_odds_73, E_X12_odds_75, E_X12_odds_76, E_X12_odds_77, E_X12_odds_78, E_X12_odds_81, E_X12_odds_83, E_X12_odds_84, E_X12_odds_87, E_X12_odds_88, E_X12_odds_89, E_X12_odds_90, E_X12_odds_93, E_X12_odds_94, E_X12_odds_97, E_X12_odds_98, E_X12_odds_99, E_X12_odds_101, E_X12_odds_102, E_X12_odds_105, E_X12_odds_108, E_X12_odds_112, E_X12_odds_115, E_X12_odds_117, E_X12_odds_119, E_X12_odds_120, E_X12_odds_121, E_X12_odds_123, E_X12_odds_125, E_X12_odds_126, E_X12_odds_129, rk_137, rc_137, rg_137_10, ra_145, rv_145, i3, i4, a14, hL, List.map_nil, List.map_cons, List.sum_cons, List.sum_nil, gcat_i, gcat_r, gcat_l, Nat.reduceAdd, Nat.reduceLeDiff, Nat.zero_le, Option.toList, List.cons_append, List.nil_append, gnk_i, gnk_r, gnk_n, gi_1, Nat.reduceLT, if_true, if_false]
      refine m_put hYs.2.1 hYs.1 (mA_trans hAs (mA_G hG2)) (mKp_G hKs hG2) (fun s3 hA3 hY4 => ?_)
      simp only [E_X12_odds_0, E_X12_odds_1, E_X12_odds_2, E_X12_odds_5, E_X12_odds_8, E_X12_odds_9, E_X12_odds_10, E_X12_odds_11, E_X12_odds_13, E_X12_odds_16, E_X12_odds_19, E_X12_odds_20, E_X12_odds_21, E_X12_odds_22, E_X12_odds_23, E_X12_odds_26, E_X12_odds_29, E_X12_odds_32, E_X12_odds_33, E_X12_odds_34, E_X12_odds_37, E_X12_odds_38, E_X12_odds_39, E_X12_odds_41, E_X12_odds_42, E_X12_odds_45, E_X12_odds_47, E_X12_odds_48, E_X12_odds_50, E_X12_odds_51, E_X12_odds_53, E_X12_odds_54, E_X12_odds_58, E_X12_odds_60, E_X12_odds_63, E_X12_odds_64, E_X12_odds_67, E_X12_odds_68, E_X12_odds_71, E_X12_odds_73, E_X12_odds_75, E_X12_odds_76, E_X12_odds_77, E_X12_odds_78, E_X12_odds_81, E_X12_odds_83, E_X12_odds_84, E_X12_odds_87, E_X12_odds_88, E_X12_odds_89, E_X12_odds_90, E_X12_odds_93, E_X12_odds_94, E_X12_odds_97, E_X12_odds_98, E_X12_odds_99, E_X12_odds_101, E_X12_odds_102, E_X12_odds_105, E_X12_odds_108, E_X12_odds_112, E_X12_odds_115, E_X12_odds_117, E_X12_odds_119, E_X12_odds_120, E_X12_odds_121, E_X12_odds_123, E_X12_odds_125, E_X12_odds_126, E_X12_odds_129, List.map_nil, List.map_cons, List.sum_cons, List.sum_nil, gcat_i, gcat_r, gcat_l, Nat.reduceAdd, Nat.reduceLeDiff, Nat.zero_le, Option.toList, List.cons_append, List.nil_append, gnk_i, gnk_r, gnk_n, gi_1, Nat.reduceLT, if_true, if_false]
      rw [← nI_succ g]
      exact hi (g + 1) s3 (nI k) (by omega) (mB_trans (mB_si hB (by omega)) (mB_A hA3)) (mYY_of hYs hY4) hq
    · rw [if_neg hL, Nat.zero_add] at hq
      simp only [E_X12_odds_0, E_X12_odds_1, E_X12_odds_2, E_X12_odds_5, E_X12_odds_8, E_X12_odds_9, E_X12_odds_10, E_X12_odds_11, E_X12_odds_13, E_X12_odds_16, E_X12_odds_19, E_X12_odds_20, E_X12_odds_21, E_X12_odds_22, E_X12_odds_23, E_X12_odds_26, E_X12_odds_29, E_X12_odds_32, E_X12_odds_33, E_X12_odds_34, E_X12_odds_37, E_X12_odds_38, E_X12_odds_39, E_X12_odds_41, E_X12_odds_42, E_X12_odds_45, E_X12_odds_47, E_X12_odds_48, E_X12_odds_50, E_X12_odds_51, E_X12_odds_53, E_X12_odds_54, E_X12_odds_58, E_X12_odds_60, E_X12_odds_63, E_X12_odds_64, E_X12_odds_67, E_X12_odds_68, E_X12_odds_71, E_X12_odds_73, E_X12_odds_75, E_X12_odds_76, E_X12_odds_77, E_X12_odds_78, E_X12_odds_81, E_X12_odds_83, E_X12_odds_84, E_X12_odds_87, E_X12_odds_88, E_X12_odds_89, E_X12_odds_90, E_X12_odds_93, E_X12_odds_94, E_X12_odds_97, E_X12_odds_98, E_X12_odds_99, E_X12_odds_101, E_X12_odds_102, E_X12_odds_105, E_X12_odds_108, E_X12_odds_112, E_X12_odds_115, E_X12_odds_117, E_X12_odds_119, E_X12_odds_120, E_X12_odds_121, E_X12_odds_123, E_X12_odds_125, E_X12_odds_126, E_X12_odds_129, rk_137, rc_137, rg_137_10, ra_145, rv_145, i3, i4, a14, hL, z0, List.map_nil, List.map_cons, List.sum_cons, List.sum_nil, gcat_i, gcat_r, gcat_l, Nat.reduceAdd, Nat.reduceLeDiff, Nat.zero_le, Option.toList, List.cons_append, List.nil_append, gnk_i, gnk_r, gnk_n, gi_1, Nat.reduceLT, if_true, if_false]
      refine m_put hYs.2.1 hYs.1 (mA_trans hAs (mA_G hG2)) (mKp_G hKs hG2) (fun s3 hA3 hY4 => ?_)
      simp only [E_X12_odds_0, E_X12_odds_1, E_X12_odds_2, E_X12_odds_5, E_X12_odds_8, E_X12_odds_9, E_X12_odds_10, E_X12_odds_11, E_X12_odds_13, E_X12_odds_16, E_X12_odds_19, E_X12_odds_20, E_X12_odds_21, E_X12_odds_22, E_X12_odds_23, E_X12_odds_26, E_X12_odds_29, E_X12_odds_32, E_X12_odds_33, E_X12_odds_34, E_X12_odds_37, E_X12_odds_38, E_X12_odds_39, E_X12_odds_41, E_X12_odds_42, E_X12_odds_45, E_X12_odds_47, E_X12_odds_48, E_X12_odds_50, E_X12_odds_51, E_X12_odds_53, E_X12_odds_54, E_X12_odds_58, E_X12_odds_60, E_X12_odds_63, E_X12_odds_64, E_X12_odds_67, E_X12_odds_68, E_X12_odds_71, E_X12_odds_73, E_X12_odds_75, E_X12_odds_76, E_X12_odds_77, E_X12_odds_78, E_X12_odds_81, E_X12_odds_83, E_X12_odds_84, E_X12_odds_87, E_X12_odds_88, E_X12_odds_89, E_X12_odds_90, E_X12_odds_93, E_X12_odds_94, E_X12_odds_97, E_X12_odds_98, E_X12_odds_99, E_X12_odds_101, E_X12_odds_102, E_X12_odds_105, E_X12_odds_108, E_X12_odds_112, E_X12_odds_115, E_X12_odds_117, E_X12_odds_119, E_X12_odds_120, E_X12_odds_121, E_X12_odds_123, E_X12_odds_125, E_X12_odds_126, E_X12_odds_129, List.map_nil, List.map_cons, List.sum_cons, List.sum_nil, gcat_i, gcat_r, gcat_l, Nat.reduceAdd, Nat.reduceLeDiff, Nat.zero_le, Option.toList, List.cons_append, List.nil_append, gnk_i, gnk_r, gnk_n, gi_1, Nat.reduceLT, if_true, if_false]
      exact hi g s3 (nI k) (by omega) (mB_trans (mB_si hB (by omega)) (mB_A hA3)) (mYY_of hYs hY4) hq
def a_odds (p : gA) (x n y : Int32) : Int64 := if (gA_of p.1.2.2 x && gB_in n 1 20 && gB_in y 0 1) = false then gNO else a_low (gOd p x.toNatClampNeg n.toNatClampNeg 10 0) 10 y
theorem m_odds {n y : Int32} (h : mYY s o cs p) (hq : ∀ s', mB s s' → mYY s' o cs p → Q (some (.long (a_odds p x n y))) (gm_m s')) : gc_X w (d + 7) 176 0 [some (.ref 137), some (.int x), some (.int n), some (.int y), none, none, none, none] [] (gm_m s) Q := by
  have k8 := h.2.1.2.1
  have hin := fun (a b c : Int32) (Q : Option Value → gc_M → Prop) => m_in (w := w) (d := d + 6) (s := s) (x := a) (y := b) (z := c) (Q := Q)
  have hic := fun (a : Int32) (Q : Option Value → gc_M → Prop) => m_isThing (w := w) (d := d + 5) (x := a) (Q := Q) h.1.1 h.2.1
  have eno : (-9223372036854775808 : Int64) = gNO := rfl
  unfold a_odds at hq
  cases b1 : gA_of p.1.2.2 x with
  | false =>
    rw [b1, Bool.false_and, Bool.false_and, if_pos rfl] at hq
    simp only [E_X12_odds_0, E_X12_odds_1, E_X12_odds_2, E_X12_odds_5, E_X12_odds_8, E_X12_odds_9, E_X12_odds_10, E_X12_odds_11, E_X12_odds_13, E_X12_odds_16, E_X12_odds_19, E_X12_odds_20, E_X12_odds_21, E_X12_odds_22, E_X12_odds_23, E_X12_odds_26, E_X12_odds_29, E_X12_odds_32, E_X12_odds_33, E_X12_odds_34, E_X12_odds_37, E_X12_odds_38, E_X12_odds_39, E_X12_odds_41, E_X12_odds_42, E_X12_odds_45, E_X12_odds_47, E_X12_odds_48, E_X12_odds_50, E_X12_odds_51, E_X12_odds_53, E_X12_odds_54, E_X12_odds_58, E_X12_odds_60, E_X12_odds_63, E_X12_odds_64, E_X12_odds_67, E_X12_odds_68, E_X12_odds_71, E_X12_odds_73, E_X12_odds_75, E_X12_odds_76, E_X12_odds_77, E_X12_odds_78, E_X12_odds_81, E_X12_odds_83, E_X12_odds_84, E_X12_odds_87, E_X12_odds_88, E_X12_odds_89, E_X12_odds_90, E_X12_odds_93, E_X12_odds_94, E_X12_odds_97, E_X12_odds_98, E_X12_odds_99, E_X12_odds_101, E_X12_odds_102, E_X12_odds_105, E_X12_odds_108, E_X12_odds_111, E_X12_odds_112, E_X12_odds_115, E_X12_odds_117, E_X12_odds_119, E_X12_odds_120, E_X12_odds_121, E_X12_odds_123, E_X12_odds_125, E_X12_odds_126, E_X12_odds_129, rc_137, hic, b1, gb_0, eno, List.map_nil, List.map_cons, List.sum_cons, List.sum_nil, gcat_i, gcat_r, gcat_l, Nat.reduceAdd, Nat.reduceLeDiff, Nat.zero_le, Option.toList, List.cons_append, List.nil_append, gnk_i, gnk_r, gnk_n, gi_1, Nat.reduceLT, if_true, if_false]
    exact hq s mB_refl h
  | true =>
    cases b2 : gB_in n 1 20 with
    | false =>
      rw [b1, b2, Bool.true_and, Bool.false_and, if_pos rfl] at hq
      simp only [E_X12_odds_0, E_X12_odds_1, E_X12_odds_2, E_X12_odds_5, E_X12_odds_8, E_X12_odds_9, E_X12_odds_10, E_X12_odds_11, E_X12_odds_13, E_X12_odds_16, E_X12_odds_19, E_X12_odds_20, E_X12_odds_21, E_X12_odds_22, E_X12_odds_23, E_X12_odds_26, E_X12_odds_29, E_X12_odds_32, E_X12_odds_33, E_X12_odds_34, E_X12_odds_37, E_X12_odds_38, E_X12_odds_39, E_X12_odds_41, E_X12_odds_42, E_X12_odds_45, E_X12_odds_47, E_X12_odds_48, E_X12_odds_50, E_X12_odds_51, E_X12_odds_53, E_X12_odds_54, E_X12_odds_58, E_X12_odds_60, E_X12_odds_63, E_X12_odds_64, E_X12_odds_67, E_X12_odds_68, E_X12_odds_71, E_X12_odds_73, E_X12_odds_75, E_X12_odds_76, E_X12_odds_77, E_X12_odds_78, E_X12_odds_81, E_X12_odds_83, E_X12_odds_84, E_X12_odds_87, E_X12_odds_88, E_X12_odds_89, E_X12_odds_90, E_X12_odds_93, E_X12_odds_94, E_X12_odds_97, E_X12_odds_98, E_X12_odds_99, E_X12_odds_101, E_X12_odds_102, E_X12_odds_105, E_X12_odds_108, E_X12_odds_111, E_X12_odds_112, E_X12_odds_115, E_X12_odds_117, E_X12_odds_119, E_X12_odds_120, E_X12_odds_121, E_X12_odds_123, E_X12_odds_125, E_X12_odds_126, E_X12_odds_129, rc_137, hic, hin, b1, b2, gb_0, gb_1, g1_0, eno, List.map_nil, List.map_cons, List.sum_cons, List.sum_nil, gcat_i, gcat_r, gcat_l, Nat.reduceAdd, Nat.reduceLeDiff, Nat.zero_le, Option.toList, List.cons_append, List.nil_append, gnk_i, gnk_r, gnk_n, gi_1, Nat.reduceLT, if_true, if_false]
      exact hq s mB_refl h
    | true =>
      cases b3 : gB_in y 0 1 with
      | false =>
        rw [b1, b2, b3, Bool.true_and, Bool.true_and, if_pos rfl] at hq
        simp only [E_X12_odds_0, E_X12_odds_1, E_X12_odds_2, E_X12_odds_5, E_X12_odds_8, E_X12_odds_9, E_X12_odds_10, E_X12_odds_11, E_X12_odds_13, E_X12_odds_16, E_X12_odds_19, E_X12_odds_20, E_X12_odds_21, E_X12_odds_22, E_X12_odds_23, E_X12_odds_26, E_X12_odds_29, E_X12_odds_32, E_X12_odds_33, E_X12_odds_34, E_X12_odds_37, E_X12_odds_38, E_X12_odds_39, E_X12_odds_41, E_X12_odds_42, E_X12_odds_45, E_X12_odds_47, E_X12_odds_48, E_X12_odds_50, E_X12_odds_51, E_X12_odds_53, E_X12_odds_54, E_X12_odds_58, E_X12_odds_60, E_X12_odds_63, E_X12_odds_64, E_X12_odds_67, E_X12_odds_68, E_X12_odds_71, E_X12_odds_73, E_X12_odds_75, E_X12_odds_76, E_X12_odds_77, E_X12_odds_78, E_X12_odds_81, E_X12_odds_83, E_X12_odds_84, E_X12_odds_87, E_X12_odds_88, E_X12_odds_89, E_X12_odds_90, E_X12_odds_93, E_X12_odds_94, E_X12_odds_97, E_X12_odds_98, E_X12_odds_99, E_X12_odds_101, E_X12_odds_102, E_X12_odds_105, E_X12_odds_108, E_X12_odds_111, E_X12_odds_112, E_X12_odds_115, E_X12_odds_117, E_X12_odds_119, E_X12_odds_120, E_X12_odds_121, E_X12_odds_123, E_X12_odds_125, E_X12_odds_126, E_X12_odds_129, rc_137, hic, hin, b1, b2, b3, gb_0, gb_1, g1_0, eno, List.map_nil, List.map_cons, List.sum_cons, List.sum_nil, gcat_i, gcat_r, gcat_l, Nat.reduceAdd, Nat.reduceLeDiff, Nat.zero_le, Option.toList, List.cons_append, List.nil_append, gnk_i, gnk_r, gnk_n, gi_1, Nat.reduceLT, if_true, if_false]
        exact hq s mB_refl h
      | true =>
        rw [b1, b2, b3, Bool.true_and, Bool.true_and, if_neg (by decide)] at hq
        obtain ⟨t, ht, e⟩ := gA_of_ex b1 (by omega)
        obtain ⟨j, hj, hj2, e2⟩ := (gB_ab (a := 1) (b := 20) (by omega) (by omega)).mp b2
        subst e e2
        have c1 : (nI t).toNatClampNeg = t := nI_clamp (by omega)
        have c2 : (nI j).toNatClampNeg = j := nI_clamp (by omega)
        rw [c1, c2] at hq
        have hh := h.2.2.2.2
        have i1 : vp_in (nI (p.1.1 % 4)) 4 := vp_in_nI (by omega) (by omega)
        have i2 : (nI (p.1.1 % 4)).toNatClampNeg = p.1.1 % 4 := nI_clamp (by omega)
        have h2 := h.1.1.2.2.1
        have a1 := h.1.1.2.2.2.1 (p.1.1 % 4) (by omega)
        have e4 : nI p.1.1 - nI p.1.1 / 4 * 4 = nI (p.1.1 % 4) := gI_mod (b := 4) (by omega) (by omega)
        have n4 : ¬ (4 : Int32) = 0 := by decide
        have h' : mYY s o cs (gA_set p 1 (p.1.1 % 4) (p.2.1 1 (p.1.1 % 4))) := by rw [gA_set_id]; exact h
        simp only [E_X12_odds_0, E_X12_odds_1, E_X12_odds_2, E_X12_odds_5, E_X12_odds_8, E_X12_odds_9, E_X12_odds_10, E_X12_odds_11, E_X12_odds_13, E_X12_odds_16, E_X12_odds_19, E_X12_odds_20, E_X12_odds_21, E_X12_odds_22, E_X12_odds_23, E_X12_odds_26, E_X12_odds_29, E_X12_odds_32, E_X12_odds_33, E_X12_odds_34, E_X12_odds_37, E_X12_odds_38, E_X12_odds_39, E_X12_odds_41, E_X12_odds_42, E_X12_odds_45, E_X12_odds_47, E_X12_odds_48, E_X12_odds_50, E_X12_odds_51, E_X12_odds_53, E_X12_odds_54, E_X12_odds_58, E_X12_odds_60, E_X12_odds_63, E_X12_odds_64, E_X12_odds_67, E_X12_odds_68, E_X12_odds_71, E_X12_odds_73, E_X12_odds_75, E_X12_odds_76, E_X12_odds_77, E_X12_odds_78, E_X12_odds_81, E_X12_odds_83, E_X12_odds_84, E_X12_odds_87, E_X12_odds_88, E_X12_odds_89, E_X12_odds_90, E_X12_odds_93, E_X12_odds_94, E_X12_odds_97, E_X12_odds_98, E_X12_odds_99, E_X12_odds_101, E_X12_odds_102, E_X12_odds_105, E_X12_odds_108, E_X12_odds_111, E_X12_odds_112, E_X12_odds_115, E_X12_odds_117, E_X12_odds_119, E_X12_odds_120, E_X12_odds_121, E_X12_odds_123, E_X12_odds_125, E_X12_odds_126, E_X12_odds_129, rk_137, rc_137, rg_137_2, rg_137_3, ra_138, rv_138, hic, hin, b1, b2, b3, h2, e4, n4, not_false_eq_true, i1, i2, a1, gb_1, g1_0, List.map_nil, List.map_cons, List.sum_cons, List.sum_nil, gcat_i, gcat_r, gcat_l, Nat.reduceAdd, Nat.reduceLeDiff, Nat.zero_le, Option.toList, List.cons_append, List.nil_append, gnk_i, gnk_r, gnk_n, gi_1, Nat.reduceLT, if_true, if_false]
        rw [← nI_0]
        refine m_odds_loop (s0 := s) (by omega) ht 10 0 0 s _ (by omega) mB_refl h' (fun s2 l7 z hB2 h2 => ?_)
        have h3 := mYY_set (i := 1) (t := p.1.1 % 4) (x := p.2.1 1 (p.1.1 % 4)) h2 (by omega)
        rw [gA_set_set, gA_set_id] at h3
        have hle := gOd_le (p := p) (t := t) (n := j) (m := 10) (k := 0)
        have hlo := fun (s : gm_S) (Q : Option Value → gc_M → Prop) => m_lowest (w := w) (d := d + 5) (s := s) (Q := Q) (x := y) (a := gOd p t j 10 0) (b := 10) (by omega) (by omega) (by omega)
        rw [show nI 10 = 10 from rfl] at hlo
        simp only [E_X12_odds_0, E_X12_odds_1, E_X12_odds_2, E_X12_odds_5, E_X12_odds_8, E_X12_odds_9, E_X12_odds_10, E_X12_odds_11, E_X12_odds_13, E_X12_odds_16, E_X12_odds_19, E_X12_odds_20, E_X12_odds_21, E_X12_odds_22, E_X12_odds_23, E_X12_odds_26, E_X12_odds_29, E_X12_odds_32, E_X12_odds_33, E_X12_odds_34, E_X12_odds_37, E_X12_odds_38, E_X12_odds_39, E_X12_odds_41, E_X12_odds_42, E_X12_odds_45, E_X12_odds_47, E_X12_odds_48, E_X12_odds_50, E_X12_odds_51, E_X12_odds_53, E_X12_odds_54, E_X12_odds_58, E_X12_odds_60, E_X12_odds_63, E_X12_odds_64, E_X12_odds_67, E_X12_odds_68, E_X12_odds_71, E_X12_odds_73, E_X12_odds_75, E_X12_odds_76, E_X12_odds_77, E_X12_odds_78, E_X12_odds_81, E_X12_odds_83, E_X12_odds_84, E_X12_odds_87, E_X12_odds_88, E_X12_odds_89, E_X12_odds_90, E_X12_odds_93, E_X12_odds_94, E_X12_odds_97, E_X12_odds_98, E_X12_odds_99, E_X12_odds_101, E_X12_odds_102, E_X12_odds_105, E_X12_odds_108, E_X12_odds_111, E_X12_odds_112, E_X12_odds_115, E_X12_odds_117, E_X12_odds_119, E_X12_odds_120, E_X12_odds_121, E_X12_odds_123, E_X12_odds_125, E_X12_odds_126, E_X12_odds_129, rk_137, rc_137, rg_137_3, ra_138, rs_138, i1, i2, Nat.zero_add, hlo, List.map_nil, List.map_cons, List.sum_cons, List.sum_nil, gcat_i, gcat_r, gcat_l, Nat.reduceAdd, Nat.reduceLeDiff, Nat.zero_le, Option.toList, List.cons_append, List.nil_append, gnk_i, gnk_r, gnk_n, gi_1, Nat.reduceLT, if_true, if_false]
        exact hq _ (mB_si hB2 (by omega)) h3
/-- mean -/
def gA_k4 (p : gA) : Prop := ∀ t, t < p.1.2.2 → ∃ g, g ≤ 99 ∧ p.2.1 12 t = nI g
def gMn (p : gA) : Nat → Nat → Nat
  | 0, _ => 0
  | m + 1, t => (if p.2.1 14 t = 0 then (p.2.1 12 t).toNatClampNeg else 0) + gMn p m (t + 1)
theorem gMn_le {p : gA} (h4 : gA_k4 p) : ∀ {m t : Nat}, t + m = p.1.2.2 → gMn p m t ≤ 99 * m
  | 0, _, _ => Nat.le_refl _
  | m + 1, t, e => by
    have := gMn_le h4 (m := m) (t := t + 1) (by omega)
    obtain ⟨g, hg, e2⟩ := h4 t (by omega)
    have c : (nI g).toNatClampNeg = g := nI_clamp (by omega)
    unfold gMn
    rw [e2, c]
    split <;> omega
theorem m_mean_loop {y z : Int32} (hR : mR s p) (hk : gA_ok p) (h4 : gA_k4 p) : ∀ (m t g : Nat), t + m = p.1.2.2 → gc_X w (d + 2) 177 33 [some (.ref 137), some (.int y), some (.int z), some (.int (nI g)), some (.int (nI t))] [] (gm_m s) Q = gc_X w (d + 2) 177 72 [some (.ref 137), some (.int y), some (.int z), some (.int (nI (g + gMn p m t))), some (.int (nI p.1.2.2))] [] (gm_m s) Q := by
  intro m
  have k8 := hk.2.1
  have h9 := hR.2.1
  induction m with
  | zero =>
    intro t g ht
    have e : p.1.2.2 = t := by omega
    rw [e] at h9 ⊢
    rw [E_X12_mean_33]
    simp only [E_X12_mean_0, E_X12_mean_1, E_X12_mean_2, E_X12_mean_3, E_X12_mean_6, E_X12_mean_9, E_X12_mean_10, E_X12_mean_11, E_X12_mean_12, E_X12_mean_13, E_X12_mean_14, E_X12_mean_17, E_X12_mean_20, E_X12_mean_21, E_X12_mean_24, E_X12_mean_27, E_X12_mean_28, E_X12_mean_29, E_X12_mean_30, E_X12_mean_31, E_X12_mean_35, E_X12_mean_36, E_X12_mean_39, E_X12_mean_42, E_X12_mean_43, E_X12_mean_44, E_X12_mean_47, E_X12_mean_49, E_X12_mean_50, E_X12_mean_53, E_X12_mean_54, E_X12_mean_57, E_X12_mean_59, E_X12_mean_60, E_X12_mean_63, E_X12_mean_64, E_X12_mean_65, E_X12_mean_66, E_X12_mean_69, E_X12_mean_73, E_X12_mean_74, E_X12_mean_75, E_X12_mean_76, E_X12_mean_79, rk_137, rg_137_1, h9, nI_le (Nat.le_refl t) (by omega : t < 2 ^ 31), gMn, Nat.add_zero, gnk_i, gnk_r, gnk_n, gi_1, Nat.reduceLT, if_true, if_false]
  | succ m ih =>
    intro t g ht
    have htl : t < p.1.2.2 := by omega
    have i3 : vp_in (nI t) 8 := vp_in_nI (by omega) (by omega)
    have i4 : (nI t).toNatClampNeg = t := nI_clamp (by omega)
    obtain ⟨a12, -, a14, -, -⟩ := hR.2.2.2.2.2 t htl
    obtain ⟨v, hv, e2⟩ := h4 t htl
    have c : (nI v).toNatClampNeg = v := nI_clamp (by omega)
    have hge : ¬ nI p.1.2.2 ≤ nI t := nI_ge (by omega) (by omega)
    have hi := fun g => ih (t + 1) g (by omega)
    rw [nI_succ] at hi
    have z0 : nI g + 0 = nI g := Int32.add_zero _
    have z1 : nI g + nI v = nI (g + v) := nI_add _ _
    rw [E_X12_mean_33, gMn]
    by_cases h0 : p.2.1 14 t = 0
    · rw [if_pos h0, e2, c, ← Nat.add_assoc]
      simp only [E_X12_mean_0, E_X12_mean_1, E_X12_mean_2, E_X12_mean_3, E_X12_mean_6, E_X12_mean_9, E_X12_mean_10, E_X12_mean_11, E_X12_mean_12, E_X12_mean_13, E_X12_mean_14, E_X12_mean_17, E_X12_mean_20, E_X12_mean_21, E_X12_mean_24, E_X12_mean_27, E_X12_mean_28, E_X12_mean_29, E_X12_mean_30, E_X12_mean_31, E_X12_mean_35, E_X12_mean_36, E_X12_mean_39, E_X12_mean_42, E_X12_mean_43, E_X12_mean_44, E_X12_mean_47, E_X12_mean_49, E_X12_mean_50, E_X12_mean_53, E_X12_mean_54, E_X12_mean_57, E_X12_mean_59, E_X12_mean_60, E_X12_mean_63, E_X12_mean_64, E_X12_mean_65, E_X12_mean_66, E_X12_mean_69, E_X12_mean_73, E_X12_mean_74, E_X12_mean_75, E_X12_mean_76, E_X12_mean_79, rk_137, rg_137_1, rg_137_8, rg_137_10, ra_143, rv_143, ra_145, rv_145, h9, hge, i3, i4, a12, a14, e2, h0, z1, hi, gnk_i, gnk_r, gnk_n, gi_1, Nat.reduceLT, if_true, if_false]
    · rw [if_neg h0, Nat.zero_add]
      simp only [E_X12_mean_0, E_X12_mean_1, E_X12_mean_2, E_X12_mean_3, E_X12_mean_6, E_X12_mean_9, E_X12_mean_10, E_X12_mean_11, E_X12_mean_12, E_X12_mean_13, E_X12_mean_14, E_X12_mean_17, E_X12_mean_20, E_X12_mean_21, E_X12_mean_24, E_X12_mean_27, E_X12_mean_28, E_X12_mean_29, E_X12_mean_30, E_X12_mean_31, E_X12_mean_35, E_X12_mean_36, E_X12_mean_39, E_X12_mean_42, E_X12_mean_43, E_X12_mean_44, E_X12_mean_47, E_X12_mean_49, E_X12_mean_50, E_X12_mean_53, E_X12_mean_54, E_X12_mean_57, E_X12_mean_59, E_X12_mean_60, E_X12_mean_63, E_X12_mean_64, E_X12_mean_65, E_X12_mean_66, E_X12_mean_69, E_X12_mean_73, E_X12_mean_74, E_X12_mean_75, E_X12_mean_76, E_X12_mean_79, rk_137, rg_137_1, rg_137_8, rg_137_10, ra_143, rv_143, ra_145, rv_145, h9, hge, i3, i4, a12, a14, h0, z0, hi, gnk_i, gnk_r, gnk_n, gi_1, Nat.reduceLT, if_true, if_false]
def a_mean (p : gA) (y : Int32) : Int64 := if (gB_in y 0 1 && !(decide (gA_cnt p 0 = 0))) = false then gNO else a_low (gMn p p.1.2.2 0) (gA_cnt p 0).toNatClampNeg y
theorem gA_cnt_ex {p : gA} {z : Int32} (hk : gA_ok p) : ∃ k, k ≤ 8 ∧ gA_cnt p z = nI k := by
  obtain ⟨k, h1, h2⟩ := gA_bits_8 (z := z) hk
  unfold gA_cnt
  rw [h2, gpcI_eq k h1]
  exact ⟨_, gpc_le k h1, rfl⟩
theorem m_mean {y : Int32} (hR : mR s p) (hk : gA_ok p) (h4 : gA_k4 p) : gc_X w (d + 2) 177 0 [some (.ref 137), some (.int y), none, none, none] [] (gm_m s) Q = Q (some (.long (a_mean p y))) (gm_m s) := by
  have k8 := hk.2.1
  have hin := fun (a b c : Int32) (Q : Option Value → gc_M → Prop) => m_in (w := w) (d := d + 1) (s := s) (x := a) (y := b) (z := c) (Q := Q)
  have hso := fun (z : Int32) (Q : Option Value → gc_M → Prop) => m_setOf (w := w) (d := d + 1) (z := z) (Q := Q) hR hk
  have hcn := fun (z : Int32) (Q : Option Value → gc_M → Prop) => m_cnt (w := w) (d := d) (s := s) (z := z) (Q := Q) hk
  have eno : (-9223372036854775808 : Int64) = gNO := rfl
  unfold a_mean
  cases b1 : gB_in y 0 1 with
  | false =>
    rw [Bool.false_and, if_pos rfl]
    simp only [E_X12_mean_0, E_X12_mean_1, E_X12_mean_2, E_X12_mean_3, E_X12_mean_6, E_X12_mean_9, E_X12_mean_10, E_X12_mean_11, E_X12_mean_12, E_X12_mean_13, E_X12_mean_14, E_X12_mean_17, E_X12_mean_20, E_X12_mean_21, E_X12_mean_24, E_X12_mean_27, E_X12_mean_28, E_X12_mean_29, E_X12_mean_30, E_X12_mean_31, E_X12_mean_35, E_X12_mean_36, E_X12_mean_39, E_X12_mean_42, E_X12_mean_43, E_X12_mean_44, E_X12_mean_47, E_X12_mean_49, E_X12_mean_50, E_X12_mean_53, E_X12_mean_54, E_X12_mean_57, E_X12_mean_59, E_X12_mean_60, E_X12_mean_63, E_X12_mean_64, E_X12_mean_65, E_X12_mean_66, E_X12_mean_69, E_X12_mean_72, E_X12_mean_73, E_X12_mean_74, E_X12_mean_75, E_X12_mean_76, E_X12_mean_79, rc_137, hin, hso, hcn, b1, gb_0, eno, List.map_nil, List.map_cons, List.sum_cons, List.sum_nil, gcat_i, gcat_r, gcat_l, Nat.reduceAdd, Nat.reduceLeDiff, Nat.zero_le, Option.toList, List.cons_append, List.nil_append, gnk_i, gnk_r, gnk_n, gi_1, Nat.reduceLT, if_true, if_false]
  | true =>
    obtain ⟨k, hk8, e⟩ := gA_cnt_ex (p := p) (z := 0) hk
    have hc0 := fun (Q : Option Value → gc_M → Prop) => hcn 0 Q
    rw [e] at hc0 ⊢
    have ck : (nI k).toNatClampNeg = k := nI_clamp (by omega)
    rw [Bool.true_and, ck]
    by_cases h0 : k = 0
    · subst h0
      rw [show (!decide (nI 0 = 0)) = false from rfl, if_pos rfl]
      simp only [E_X12_mean_0, E_X12_mean_1, E_X12_mean_2, E_X12_mean_3, E_X12_mean_6, E_X12_mean_9, E_X12_mean_10, E_X12_mean_11, E_X12_mean_12, E_X12_mean_13, E_X12_mean_14, E_X12_mean_17, E_X12_mean_20, E_X12_mean_21, E_X12_mean_24, E_X12_mean_27, E_X12_mean_28, E_X12_mean_29, E_X12_mean_30, E_X12_mean_31, E_X12_mean_35, E_X12_mean_36, E_X12_mean_39, E_X12_mean_42, E_X12_mean_43, E_X12_mean_44, E_X12_mean_47, E_X12_mean_49, E_X12_mean_50, E_X12_mean_53, E_X12_mean_54, E_X12_mean_57, E_X12_mean_59, E_X12_mean_60, E_X12_mean_63, E_X12_mean_64, E_X12_mean_65, E_X12_mean_66, E_X12_mean_69, E_X12_mean_72, E_X12_mean_73, E_X12_mean_74, E_X12_mean_75, E_X12_mean_76, E_X12_mean_79, rc_137, hin, hso, hc0, b1, gb_1, g1_0, eno, nI_0, List.map_nil, List.map_cons, List.sum_cons, List.sum_nil, gcat_i, gcat_r, gcat_l, Nat.reduceAdd, Nat.reduceLeDiff, Nat.zero_le, Option.toList, List.cons_append, List.nil_append, gnk_i, gnk_r, gnk_n, gi_1, Nat.reduceLT, if_true, if_false]
    · have hz : ¬ nI k = 0 := nI_ne0 (by omega) (by omega)
      rw [show (!decide (nI k = 0)) = true by rw [decide_eq_false hz]; rfl, if_neg (by decide)]
      have hle := gMn_le h4 (m := p.1.2.2) (t := 0) (by omega)
      have hlo := fun (Q : Option Value → gc_M → Prop) => m_lowest (w := w) (d := d) (s := s) (Q := Q) (x := y) (a := gMn p p.1.2.2 0) (b := k) (by omega) (by omega) (by omega)
      have hl := m_mean_loop (w := w) (d := d) (s := s) (Q := Q) (y := y) (z := nI k) hR hk h4 p.1.2.2 0 0 (by omega)
      rw [Nat.zero_add, nI_0] at hl
      simp only [E_X12_mean_0, E_X12_mean_1, E_X12_mean_2, E_X12_mean_3, E_X12_mean_6, E_X12_mean_9, E_X12_mean_10, E_X12_mean_11, E_X12_mean_12, E_X12_mean_13, E_X12_mean_14, E_X12_mean_17, E_X12_mean_20, E_X12_mean_21, E_X12_mean_24, E_X12_mean_27, E_X12_mean_28, E_X12_mean_29, E_X12_mean_30, E_X12_mean_31, E_X12_mean_35, E_X12_mean_36, E_X12_mean_39, E_X12_mean_42, E_X12_mean_43, E_X12_mean_44, E_X12_mean_47, E_X12_mean_49, E_X12_mean_50, E_X12_mean_53, E_X12_mean_54, E_X12_mean_57, E_X12_mean_59, E_X12_mean_60, E_X12_mean_63, E_X12_mean_64, E_X12_mean_65, E_X12_mean_66, E_X12_mean_69, E_X12_mean_73, E_X12_mean_74, E_X12_mean_75, E_X12_mean_76, E_X12_mean_79, rc_137, hin, hso, hc0, b1, hz, gb_1, g1_0, List.map_nil, List.map_cons, List.sum_cons, List.sum_nil, gcat_i, gcat_r, gcat_l, Nat.reduceAdd, Nat.reduceLeDiff, Nat.zero_le, Option.toList, List.cons_append, List.nil_append, gnk_i, gnk_r, gnk_n, gi_1, Nat.reduceLT, if_true, if_false]
      rw [hl]
      simp only [E_X12_mean_0, E_X12_mean_1, E_X12_mean_2, E_X12_mean_3, E_X12_mean_6, E_X12_mean_9, E_X12_mean_10, E_X12_mean_11, E_X12_mean_12, E_X12_mean_13, E_X12_mean_14, E_X12_mean_17, E_X12_mean_20, E_X12_mean_21, E_X12_mean_24, E_X12_mean_27, E_X12_mean_28, E_X12_mean_29, E_X12_mean_30, E_X12_mean_31, E_X12_mean_35, E_X12_mean_36, E_X12_mean_39, E_X12_mean_42, E_X12_mean_43, E_X12_mean_44, E_X12_mean_47, E_X12_mean_49, E_X12_mean_50, E_X12_mean_53, E_X12_mean_54, E_X12_mean_57, E_X12_mean_59, E_X12_mean_60, E_X12_mean_63, E_X12_mean_64, E_X12_mean_65, E_X12_mean_66, E_X12_mean_69, E_X12_mean_72, E_X12_mean_73, E_X12_mean_74, E_X12_mean_75, E_X12_mean_76, E_X12_mean_79, rc_137, hlo, List.map_nil, List.map_cons, List.sum_cons, List.sum_nil, gcat_i, gcat_r, gcat_l, Nat.reduceAdd, Nat.reduceLeDiff, Nat.zero_le, Option.toList, List.cons_append, List.nil_append, gnk_i, gnk_r, gnk_n, gi_1, Nat.reduceLT, if_true, if_false]
end
