/-! what is asked, in the trial: fractions, odds, mean, ends -/
def gLt (a b : Nat) : Nat → Nat → Nat → Nat
  | 0, _, c => c
  | n + 1, d, c => gLt a b n (d + 1) (if a % d = 0 ∧ b % d = 0 then d else c)
theorem gLt_gcd {a b : Nat} (hb : 0 < b) : ∀ {n d c : Nat}, 1 ≤ c → a % c = 0 → b % c = 0 → 1 ≤ d → d + n = b + 1 → (∀ e, e < d → 1 ≤ e → a % e = 0 → b % e = 0 → e ≤ c) → gLt a b n d c = Nat.gcd a b
  | 0, d, c, hc, h1, h2, hd, hn, hm => by
    have g1 : a % Nat.gcd a b = 0 := Nat.mod_eq_zero_of_dvd (Nat.gcd_dvd_left a b)
    have g2 : b % Nat.gcd a b = 0 := Nat.mod_eq_zero_of_dvd (Nat.gcd_dvd_right a b)
    have g3 : Nat.gcd a b ≤ b := Nat.gcd_le_right a hb
    have g4 : 0 < Nat.gcd a b := Nat.gcd_pos_of_pos_right a hb
    have h3 := hm _ (by omega) g4 g1 g2
    have h4 : c ≤ Nat.gcd a b := Nat.le_of_dvd g4 (Nat.dvd_gcd (Nat.dvd_of_mod_eq_zero h1) (Nat.dvd_of_mod_eq_zero h2))
    show c = _
    omega
  | n + 1, d, c, hc, h1, h2, hd, hn, hm => by
    rw [gLt]
    by_cases h : a % d = 0 ∧ b % d = 0
    · rw [if_pos h]
      exact gLt_gcd hb hd h.1 h.2 (by omega) (by omega) (fun e he _ _ _ => by omega)
    · rw [if_neg h]
      refine gLt_gcd hb hc h1 h2 (by omega) (by omega) (fun e he h3 h4 h5 => ?_)
      by_cases e2 : e = d
      · subst e2
        exact absurd ⟨h4, h5⟩ h
      · exact hm e (by omega) h3 h4 h5
section
variable {w : Nat × (Nat → Int32)} {d f m t : Nat} {s : gm_S} {p : gA} {Q : Option Value → gc_M → Prop} {x : Int32}
theorem c_low_loop {a b : Nat} (ha : a < 2 ^ 30) (hb : b < 2 ^ 30) : ∀ (n e c : Nat), 1 ≤ e → e + n = b + 1 → gc_X w d 100 5 [some (.int (nI a)), some (.int (nI b)), some (.int x), some (.int (nI c)), some (.int (nI e))] [] (gm_m s) Q = gc_X w d 100 34 [some (.int (nI a)), some (.int (nI b)), some (.int x), some (.int (nI (gLt a b n e c))), some (.int (nI (b + 1)))] [] (gm_m s) Q := by
  intro n
  induction n with
  | zero =>
    intro e c he hn
    have h1 : e = b + 1 := by omega
    subst h1
    have h2 : nI b < nI (b + 1) := nI_lt (by omega) (by omega)
    rw [E_X11_lowestTerms_5]
    simp only [E_X11_lowestTerms_0, E_X11_lowestTerms_1, E_X11_lowestTerms_2, E_X11_lowestTerms_3, E_X11_lowestTerms_7, E_X11_lowestTerms_8, E_X11_lowestTerms_11, E_X11_lowestTerms_12, E_X11_lowestTerms_14, E_X11_lowestTerms_15, E_X11_lowestTerms_18, E_X11_lowestTerms_19, E_X11_lowestTerms_21, E_X11_lowestTerms_22, E_X11_lowestTerms_25, E_X11_lowestTerms_27, E_X11_lowestTerms_28, E_X11_lowestTerms_31, E_X11_lowestTerms_35, E_X11_lowestTerms_38, E_X11_lowestTerms_39, E_X11_lowestTerms_40, E_X11_lowestTerms_41, E_X11_lowestTerms_42, E_X11_lowestTerms_45, E_X11_lowestTerms_46, E_X11_lowestTerms_47, E_X11_lowestTerms_48, E_X11_lowestTerms_49, h2, gLt, gnk_i, gnk_r, gnk_n, gi_1, Nat.reduceLT, if_true, if_false]
  | succ n ih =>
    intro e c he hn
    have h2 : ¬ nI b < nI e := nI_nlt (by omega) (by omega)
    have hz : ¬ nI e = 0 := nI_ne0 (by omega) (by omega)
    have e1 : nI a - nI a / nI e * nI e = nI (a % e) := gI_mod (by omega) (by omega)
    have e2 : nI b - nI b / nI e * nI e = nI (b % e) := gI_mod (by omega) (by omega)
    have l1 := Nat.mod_le a e
    have l2 := Nat.mod_le b e
    have z1 : (nI (a % e) = 0) = (a % e = 0) := propext (nI_eq (b := 0) (by omega) (by omega))
    have z2 : (nI (b % e) = 0) = (b % e = 0) := propext (nI_eq (b := 0) (by omega) (by omega))
    have hi := fun c => ih (e + 1) c (by omega) (by omega)
    rw [nI_succ] at hi
    rw [E_X11_lowestTerms_5, gLt]
    by_cases ha : a % e = 0
    · by_cases hb : b % e = 0
      · rw [if_pos ⟨ha, hb⟩]
        simp only [E_X11_lowestTerms_0, E_X11_lowestTerms_1, E_X11_lowestTerms_2, E_X11_lowestTerms_3, E_X11_lowestTerms_7, E_X11_lowestTerms_8, E_X11_lowestTerms_11, E_X11_lowestTerms_12, E_X11_lowestTerms_14, E_X11_lowestTerms_15, E_X11_lowestTerms_18, E_X11_lowestTerms_19, E_X11_lowestTerms_21, E_X11_lowestTerms_22, E_X11_lowestTerms_25, E_X11_lowestTerms_27, E_X11_lowestTerms_28, E_X11_lowestTerms_31, E_X11_lowestTerms_35, E_X11_lowestTerms_38, E_X11_lowestTerms_39, E_X11_lowestTerms_40, E_X11_lowestTerms_41, E_X11_lowestTerms_42, E_X11_lowestTerms_45, E_X11_lowestTerms_46, E_X11_lowestTerms_47, E_X11_lowestTerms_48, E_X11_lowestTerms_49, h2, hz, not_false_eq_true, e1, e2, z1, z2, ha, hb, nI_0, hi, gnk_i, gnk_r, gnk_n, gi_1, Nat.reduceLT, if_true, if_false]
      · rw [if_neg (fun q => hb q.2)]
        simp only [E_X11_lowestTerms_0, E_X11_lowestTerms_1, E_X11_lowestTerms_2, E_X11_lowestTerms_3, E_X11_lowestTerms_7, E_X11_lowestTerms_8, E_X11_lowestTerms_11, E_X11_lowestTerms_12, E_X11_lowestTerms_14, E_X11_lowestTerms_15, E_X11_lowestTerms_18, E_X11_lowestTerms_19, E_X11_lowestTerms_21, E_X11_lowestTerms_22, E_X11_lowestTerms_25, E_X11_lowestTerms_27, E_X11_lowestTerms_28, E_X11_lowestTerms_31, E_X11_lowestTerms_35, E_X11_lowestTerms_38, E_X11_lowestTerms_39, E_X11_lowestTerms_40, E_X11_lowestTerms_41, E_X11_lowestTerms_42, E_X11_lowestTerms_45, E_X11_lowestTerms_46, E_X11_lowestTerms_47, E_X11_lowestTerms_48, E_X11_lowestTerms_49, h2, hz, not_false_eq_true, e1, e2, z1, z2, ha, hb, nI_0, hi, gnk_i, gnk_r, gnk_n, gi_1, Nat.reduceLT, if_true, if_false]
    · rw [if_neg (fun q => ha q.1)]
      simp only [E_X11_lowestTerms_0, E_X11_lowestTerms_1, E_X11_lowestTerms_2, E_X11_lowestTerms_3, E_X11_lowestTerms_7, E_X11_lowestTerms_8, E_X11_lowestTerms_11, E_X11_lowestTerms_12, E_X11_lowestTerms_14, E_X11_lowestTerms_15, E_X11_lowestTerms_18, E_X11_lowestTerms_19, E_X11_lowestTerms_21, E_X11_lowestTerms_22, E_X11_lowestTerms_25, E_X11_lowestTerms_27, E_X11_lowestTerms_28, E_X11_lowestTerms_31, E_X11_lowestTerms_35, E_X11_lowestTerms_38, E_X11_lowestTerms_39, E_X11_lowestTerms_40, E_X11_lowestTerms_41, E_X11_lowestTerms_42, E_X11_lowestTerms_45, E_X11_lowestTerms_46, E_X11_lowestTerms_47, E_X11_lowestTerms_48, E_X11_lowestTerms_49, h2, hz, not_false_eq_true, e1, e2, z1, z2, ha, hi, gnk_i, gnk_r, gnk_n, gi_1, Nat.reduceLT, if_true, if_false]
theorem c_lowest {a b : Nat} (ha : a < 2 ^ 30) (hb : b < 2 ^ 30) (h0 : 0 < b) : gc_X w d 100 0 [some (.int (nI a)), some (.int (nI b)), some (.int x), none, none] [] (gm_m s) Q = Q (some (.long (a_low a b x))) (gm_m s) := by
  have hl := c_low_loop (w := w) (d := d) (s := s) (Q := Q) (x := x) ha hb (b - 1) 2 1 (by omega) (by omega)
  rw [gLt_gcd h0 (Nat.le_refl 1) (Nat.mod_one a) (Nat.mod_one b) (by omega) (by omega) (fun e he _ _ _ => by omega)] at hl
  rw [show nI 2 = 2 from rfl, show nI 1 = 1 from rfl] at hl
  have hg := Nat.gcd_pos_of_pos_right a h0
  have hg2 := Nat.gcd_le_right a h0
  have hz : ¬ nI (Nat.gcd a b) = 0 := nI_ne0 hg (by omega)
  have e1 : nI a / nI (Nat.gcd a b) = nI (a / Nat.gcd a b) := gI_div (by omega) (by omega)
  have e2 : nI b / nI (Nat.gcd a b) = nI (b / Nat.gcd a b) := gI_div (by omega) (by omega)
  simp only [E_X11_lowestTerms_0, E_X11_lowestTerms_1, E_X11_lowestTerms_2, E_X11_lowestTerms_3, gnk_i, gnk_r, gnk_n, gi_1, Nat.reduceLT, if_true, if_false]
  rw [hl]
  unfold a_low
  by_cases hx : x = 0 <;>
    simp only [E_X11_lowestTerms_0, E_X11_lowestTerms_1, E_X11_lowestTerms_2, E_X11_lowestTerms_3, E_X11_lowestTerms_7, E_X11_lowestTerms_8, E_X11_lowestTerms_11, E_X11_lowestTerms_12, E_X11_lowestTerms_14, E_X11_lowestTerms_15, E_X11_lowestTerms_18, E_X11_lowestTerms_19, E_X11_lowestTerms_21, E_X11_lowestTerms_22, E_X11_lowestTerms_25, E_X11_lowestTerms_27, E_X11_lowestTerms_28, E_X11_lowestTerms_31, E_X11_lowestTerms_34, E_X11_lowestTerms_35, E_X11_lowestTerms_38, E_X11_lowestTerms_39, E_X11_lowestTerms_40, E_X11_lowestTerms_41, E_X11_lowestTerms_42, E_X11_lowestTerms_45, E_X11_lowestTerms_46, E_X11_lowestTerms_47, E_X11_lowestTerms_48, E_X11_lowestTerms_49, hz, not_false_eq_true, e1, e2, hx, gnk_i, gnk_r, gnk_n, gi_1, Nat.reduceLT, if_true, if_false]
theorem c_odds_loop {s0 : gm_S} {n : Nat} (hk : gA_ok p) (hh : p.1.1 ≤ 9999) (hn : n ≤ 60) (ht : t < p.1.2.2) : ∀ (j k g : Nat) (s : gm_S), k + j = 10 → cT s0 s → gR s 83 f m p → (∀ s' l5, cT s0 s' → gc_X w (d + 5) 81 106 [some (.ref 0), some (.int (nI t)), some (.int (nI n)), some (.int x), some (.int (nI (g + gOd p t n j k))), l5] [] (gm_m s') Q) → gc_X w (d + 5) 81 40 [some (.ref 0), some (.int (nI t)), some (.int (nI n)), some (.int x), some (.int (nI g)), some (.int (nI k))] [] (gm_m s) Q := by
  intro j
  have k6 := hk.1
  have k8 := hk.2.1
  have i1 : vp_in (nI (p.1.1 % 4)) 4 := vp_in_nI (by omega) (by omega)
  have i2 : (nI (p.1.1 % 4)).toNatClampNeg = p.1.1 % 4 := nI_clamp (by omega)
  have i7 := nI_and3 (n := p.1.1) (by omega)
  induction j with
  | zero =>
    intro k g s hk10 hT hR hq
    have e : (9 : Int32) < nI k := nI_lt (a := 9) (by omega) (by omega)
    rw [E_X11_odds_40]
    simp only [E_X11_odds_0, E_X11_odds_1, E_X11_odds_4, E_X11_odds_5, E_X11_odds_8, E_X11_odds_11, E_X11_odds_12, E_X11_odds_13, E_X11_odds_16, E_X11_odds_17, E_X11_odds_19, E_X11_odds_22, E_X11_odds_23, E_X11_odds_24, E_X11_odds_27, E_X11_odds_30, E_X11_odds_33, E_X11_odds_34, E_X11_odds_35, E_X11_odds_37, E_X11_odds_38, E_X11_odds_42, E_X11_odds_44, E_X11_odds_47, E_X11_odds_48, E_X11_odds_51, E_X11_odds_52, E_X11_odds_55, E_X11_odds_58, E_X11_odds_59, E_X11_odds_62, E_X11_odds_65, E_X11_odds_66, E_X11_odds_69, E_X11_odds_72, E_X11_odds_73, E_X11_odds_74, E_X11_odds_76, E_X11_odds_77, E_X11_odds_78, E_X11_odds_81, E_X11_odds_82, E_X11_odds_85, E_X11_odds_86, E_X11_odds_89, E_X11_odds_90, E_X11_odds_91, E_X11_odds_94, E_X11_odds_97, E_X11_odds_100, E_X11_odds_103, E_X11_odds_108, E_X11_odds_110, E_X11_odds_111, E_X11_odds_114, e, gnk_i, gnk_r, gnk_n, gi_1, Nat.reduceLT, if_true, if_false]
    exact hq s _ hT
  | succ j ih =>
    intro k g s hk10 hT hR hq
    have e : ¬ (9 : Int32) < nI k := nI_nlt (a := 9) (by omega) (by omega)
    have hi := ih (k + 1)
    rw [nI_succ] at hi
    rw [gOd] at hq
    rw [E_X11_odds_40]
    simp only [E_X11_odds_0, E_X11_odds_1, E_X11_odds_4, E_X11_odds_5, E_X11_odds_8, E_X11_odds_11, E_X11_odds_12, E_X11_odds_13, E_X11_odds_16, E_X11_odds_17, E_X11_odds_19, E_X11_odds_22, E_X11_odds_23, E_X11_odds_24, E_X11_odds_27, E_X11_odds_30, E_X11_odds_33, E_X11_odds_34, E_X11_odds_35, E_X11_odds_37, E_X11_odds_38, E_X11_odds_42, E_X11_odds_44, E_X11_odds_47, E_X11_odds_48, E_X11_odds_51, E_X11_odds_52, E_X11_odds_55, E_X11_odds_58, E_X11_odds_59, E_X11_odds_62, E_X11_odds_65, E_X11_odds_66, E_X11_odds_69, E_X11_odds_72, E_X11_odds_73, E_X11_odds_74, E_X11_odds_76, E_X11_odds_77, E_X11_odds_78, E_X11_odds_81, E_X11_odds_82, E_X11_odds_85, E_X11_odds_86, E_X11_odds_89, E_X11_odds_90, E_X11_odds_91, E_X11_odds_94, E_X11_odds_97, E_X11_odds_100, E_X11_odds_103, E_X11_odds_108, E_X11_odds_110, E_X11_odds_111, E_X11_odds_114, rk_0, rc_101, rg_0_0, rg_0_1, e, List.map_nil, List.map_cons, List.sum_cons, List.sum_nil, gcat_i, gcat_r, gcat_l, Nat.reduceAdd, Nat.reduceLeDiff, Nat.zero_le, Option.toList, List.cons_append, List.nil_append, gnk_i, gnk_r, gnk_n, gi_1, Nat.reduceLT, if_true, if_false]
    refine c_copy hR hk (fun s1 hT1 hR1 hR1' => ?_)
    have h2 : s1.1 83 2 = nI p.1.1 := hR1.2.2.2.2.1
    have hR2 := gR_set (o := 1) (j := p.1.1 % 4) (x := nI k) hR1' (by decide) (by decide)
    have hk2 : gA_ok (gA_set p 1 (p.1.1 % 4) (nI k)) := gA_ok_set hk (by omega)
    simp only [E_X11_odds_0, E_X11_odds_1, E_X11_odds_4, E_X11_odds_5, E_X11_odds_8, E_X11_odds_11, E_X11_odds_12, E_X11_odds_13, E_X11_odds_16, E_X11_odds_17, E_X11_odds_19, E_X11_odds_22, E_X11_odds_23, E_X11_odds_24, E_X11_odds_27, E_X11_odds_30, E_X11_odds_33, E_X11_odds_34, E_X11_odds_35, E_X11_odds_37, E_X11_odds_38, E_X11_odds_42, E_X11_odds_44, E_X11_odds_47, E_X11_odds_48, E_X11_odds_51, E_X11_odds_52, E_X11_odds_55, E_X11_odds_58, E_X11_odds_59, E_X11_odds_62, E_X11_odds_65, E_X11_odds_66, E_X11_odds_69, E_X11_odds_72, E_X11_odds_73, E_X11_odds_74, E_X11_odds_76, E_X11_odds_77, E_X11_odds_78, E_X11_odds_81, E_X11_odds_82, E_X11_odds_85, E_X11_odds_86, E_X11_odds_89, E_X11_odds_90, E_X11_odds_91, E_X11_odds_94, E_X11_odds_97, E_X11_odds_100, E_X11_odds_103, E_X11_odds_108, E_X11_odds_110, E_X11_odds_111, E_X11_odds_114, rk_0, rk_83, rk_101, rc_101, rg_0_0, rg_0_1, rg_83_2, rg_101_3, ra_102, rs_102, h2, i1, i2, i7, List.map_nil, List.map_cons, List.sum_cons, List.sum_nil, gcat_i, gcat_r, gcat_l, Nat.reduceAdd, Nat.reduceLeDiff, Nat.zero_le, Option.toList, List.cons_append, List.nil_append, gnk_i, gnk_r, gnk_n, gi_1, Nat.reduceLT, if_true, if_false]
    refine gy_go hR2 hk2 (by show p.1.1 + n < _; omega) (fun s2 hF2 hR3 => ?_)
    have gn : (gA_go n (gA_set p 1 (p.1.1 % 4) (nI k))).1 = (p.1.1 + n, p.1.2) := gA_go_n
    have gk : gA_ok (gA_go n (gA_set p 1 (p.1.1 % 4) (nI k))) := gA_go_ok hk2 (by show p.1.1 + n < _; omega)
    have hT2 : cT s s2 := cT_trans (cT_si hT1 (by omega)) (cT_F hF2)
    have hin := fun (z : Int32) (Q : Option Value → gc_M → Prop) => gy_isIn (w := w) (d := d + 3) (x := nI t) (z := z) (Q := Q) hR3 gk
    simp only [gA_isIn_t (p := gA_go n (gA_set p 1 (p.1.1 % 4) (nI k))) (by rw [gn]; exact ht) gk] at hin
    by_cases hL : (gA_go n (gA_set p 1 (p.1.1 % 4) (nI k))).2.1 14 t = 2
    · rw [if_pos hL, ← Nat.add_assoc] at hq
      simp only [E_X11_odds_0, E_X11_odds_1, E_X11_odds_4, E_X11_odds_5, E_X11_odds_8, E_X11_odds_11, E_X11_odds_12, E_X11_odds_13, E_X11_odds_16, E_X11_odds_17, E_X11_odds_19, E_X11_odds_22, E_X11_odds_23, E_X11_odds_24, E_X11_odds_27, E_X11_odds_30, E_X11_odds_33, E_X11_odds_34, E_X11_odds_35, E_X11_odds_37, E_X11_odds_38, E_X11_odds_42, E_X11_odds_44, E_X11_odds_47, E_X11_odds_48, E_X11_odds_51, E_X11_odds_52, E_X11_odds_55, E_X11_odds_58, E_X11_odds_59, E_X11_odds_62, E_X11_odds_65, E_X11_odds_66, E_X11_odds_69, E_X11_odds_72, E_X11_odds_73, E_X11_odds_74, E_X11_odds_76, E_X11_odds_77, E_X11_odds_78, E_X11_odds_81, E_X11_odds_82, E_X11_odds_85, E_X11_odds_86, E_X11_odds_89, E_X11_odds_90, E_X11_odds_91, E_X11_odds_94, E_X11_odds_97, E_X11_odds_100, E_X11_odds_103, E_X11_odds_108, E_X11_odds_110, E_X11_odds_111, E_X11_odds_114, rk_0, rc_101, rg_0_1, hin, hL, decide_true, gb_1, g1_0, List.map_nil, List.map_cons, List.sum_cons, List.sum_nil, gcat_i, gcat_r, gcat_l, Nat.reduceAdd, Nat.reduceLeDiff, Nat.zero_le, Option.toList, List.cons_append, List.nil_append, gnk_i, gnk_r, gnk_n, gi_1, Nat.reduceLT, if_true, if_false]
      rw [← nI_succ g]
      exact hi (g + 1) s2 (by omega) (cT_trans hT hT2) (gR_T hR k6 hT2) hq
    · rw [if_neg hL, Nat.zero_add] at hq
      simp only [E_X11_odds_0, E_X11_odds_1, E_X11_odds_4, E_X11_odds_5, E_X11_odds_8, E_X11_odds_11, E_X11_odds_12, E_X11_odds_13, E_X11_odds_16, E_X11_odds_17, E_X11_odds_19, E_X11_odds_22, E_X11_odds_23, E_X11_odds_24, E_X11_odds_27, E_X11_odds_30, E_X11_odds_33, E_X11_odds_34, E_X11_odds_35, E_X11_odds_37, E_X11_odds_38, E_X11_odds_42, E_X11_odds_44, E_X11_odds_47, E_X11_odds_48, E_X11_odds_51, E_X11_odds_52, E_X11_odds_55, E_X11_odds_58, E_X11_odds_59, E_X11_odds_62, E_X11_odds_65, E_X11_odds_66, E_X11_odds_69, E_X11_odds_72, E_X11_odds_73, E_X11_odds_74, E_X11_odds_76, E_X11_odds_77, E_X11_odds_78, E_X11_odds_81, E_X11_odds_82, E_X11_odds_85, E_X11_odds_86, E_X11_odds_89, E_X11_odds_90, E_X11_odds_91, E_X11_odds_94, E_X11_odds_97, E_X11_odds_100, E_X11_odds_103, E_X11_odds_108, E_X11_odds_110, E_X11_odds_111, E_X11_odds_114, rk_0, rc_101, rg_0_1, hin, hL, decide_false, gb_0, List.map_nil, List.map_cons, List.sum_cons, List.sum_nil, gcat_i, gcat_r, gcat_l, Nat.reduceAdd, Nat.reduceLeDiff, Nat.zero_le, Option.toList, List.cons_append, List.nil_append, gnk_i, gnk_r, gnk_n, gi_1, Nat.reduceLT, if_true, if_false]
      exact hi g s2 (by omega) (cT_trans hT hT2) (gR_T hR k6 hT2) hq
theorem c_odds {n y : Int32} (hR : gR s 83 f m p) (hk : gA_ok p) (hh : p.1.1 ≤ 9999) (hq : ∀ s', cT s s' → Q (some (.long (a_odds p x n y))) (gm_m s')) : gc_X w (d + 5) 81 0 [some (.ref 0), some (.int x), some (.int n), some (.int y), none, none] [] (gm_m s) Q := by
  have k8 := hk.2.1
  have hw := fun (a b : Int32) (Q : Option Value → gc_M → Prop) => c_within (w := w) (d := d + 4) (s := s) (x := a) (y := b) (Q := Q)
  have hht := fun (z : Int32) (Q : Option Value → gc_M → Prop) => gy_hasThing (w := w) (d := d + 4) (x := z) (Q := Q) hR
  have eno : (-9223372036854775808 : Int64) = gNO := rfl
  unfold a_odds at hq
  cases b1 : gA_of p.1.2.2 x with
  | false =>
    rw [b1, Bool.false_and, Bool.false_and, if_pos rfl] at hq
    simp only [E_X11_odds_0, E_X11_odds_1, E_X11_odds_4, E_X11_odds_5, E_X11_odds_8, E_X11_odds_11, E_X11_odds_12, E_X11_odds_13, E_X11_odds_16, E_X11_odds_17, E_X11_odds_19, E_X11_odds_22, E_X11_odds_23, E_X11_odds_24, E_X11_odds_27, E_X11_odds_30, E_X11_odds_33, E_X11_odds_34, E_X11_odds_35, E_X11_odds_37, E_X11_odds_38, E_X11_odds_42, E_X11_odds_44, E_X11_odds_47, E_X11_odds_48, E_X11_odds_51, E_X11_odds_52, E_X11_odds_55, E_X11_odds_58, E_X11_odds_59, E_X11_odds_62, E_X11_odds_65, E_X11_odds_66, E_X11_odds_69, E_X11_odds_72, E_X11_odds_73, E_X11_odds_74, E_X11_odds_76, E_X11_odds_77, E_X11_odds_78, E_X11_odds_81, E_X11_odds_82, E_X11_odds_85, E_X11_odds_86, E_X11_odds_89, E_X11_odds_90, E_X11_odds_91, E_X11_odds_94, E_X11_odds_97, E_X11_odds_100, E_X11_odds_103, E_X11_odds_106, E_X11_odds_108, E_X11_odds_110, E_X11_odds_111, E_X11_odds_114, rk_0, rc_83, rg_0_0, hht, b1, gb_0, eno, List.map_nil, List.map_cons, List.sum_cons, List.sum_nil, gcat_i, gcat_r, gcat_l, Nat.reduceAdd, Nat.reduceLeDiff, Nat.zero_le, Option.toList, List.cons_append, List.nil_append, gnk_i, gnk_r, gnk_n, gi_1, Nat.reduceLT, if_true, if_false]
    exact hq s cT_refl
  | true =>
    cases b2 : gB_in n 1 20 with
    | false =>
      rw [b1, b2, Bool.true_and, Bool.false_and, if_pos rfl] at hq
      have hr : n < 1 ∨ 20 < n := by
        have : (!(decide (n < 1)) && !(decide ((20 : Int32) < n))) = false := b2
        by_cases q : n < 1
        · exact Or.inl q
        · by_cases q2 : (20 : Int32) < n
          · exact Or.inr q2
          · simp [q, q2] at this
      by_cases q : n < 1
      · simp only [E_X11_odds_0, E_X11_odds_1, E_X11_odds_4, E_X11_odds_5, E_X11_odds_8, E_X11_odds_11, E_X11_odds_12, E_X11_odds_13, E_X11_odds_16, E_X11_odds_17, E_X11_odds_19, E_X11_odds_22, E_X11_odds_23, E_X11_odds_24, E_X11_odds_27, E_X11_odds_30, E_X11_odds_33, E_X11_odds_34, E_X11_odds_35, E_X11_odds_37, E_X11_odds_38, E_X11_odds_42, E_X11_odds_44, E_X11_odds_47, E_X11_odds_48, E_X11_odds_51, E_X11_odds_52, E_X11_odds_55, E_X11_odds_58, E_X11_odds_59, E_X11_odds_62, E_X11_odds_65, E_X11_odds_66, E_X11_odds_69, E_X11_odds_72, E_X11_odds_73, E_X11_odds_74, E_X11_odds_76, E_X11_odds_77, E_X11_odds_78, E_X11_odds_81, E_X11_odds_82, E_X11_odds_85, E_X11_odds_86, E_X11_odds_89, E_X11_odds_90, E_X11_odds_91, E_X11_odds_94, E_X11_odds_97, E_X11_odds_100, E_X11_odds_103, E_X11_odds_106, E_X11_odds_108, E_X11_odds_110, E_X11_odds_111, E_X11_odds_114, rk_0, rc_83, rg_0_0, hht, b1, q, gb_0, gb_1, g1_0, eno, List.map_nil, List.map_cons, List.sum_cons, List.sum_nil, gcat_i, gcat_r, gcat_l, Nat.reduceAdd, Nat.reduceLeDiff, Nat.zero_le, Option.toList, List.cons_append, List.nil_append, gnk_i, gnk_r, gnk_n, gi_1, Nat.reduceLT, if_true, if_false]
        exact hq s cT_refl
      · have q2 : (20 : Int32) < n := hr.resolve_left q
        simp only [E_X11_odds_0, E_X11_odds_1, E_X11_odds_4, E_X11_odds_5, E_X11_odds_8, E_X11_odds_11, E_X11_odds_12, E_X11_odds_13, E_X11_odds_16, E_X11_odds_17, E_X11_odds_19, E_X11_odds_22, E_X11_odds_23, E_X11_odds_24, E_X11_odds_27, E_X11_odds_30, E_X11_odds_33, E_X11_odds_34, E_X11_odds_35, E_X11_odds_37, E_X11_odds_38, E_X11_odds_42, E_X11_odds_44, E_X11_odds_47, E_X11_odds_48, E_X11_odds_51, E_X11_odds_52, E_X11_odds_55, E_X11_odds_58, E_X11_odds_59, E_X11_odds_62, E_X11_odds_65, E_X11_odds_66, E_X11_odds_69, E_X11_odds_72, E_X11_odds_73, E_X11_odds_74, E_X11_odds_76, E_X11_odds_77, E_X11_odds_78, E_X11_odds_81, E_X11_odds_82, E_X11_odds_85, E_X11_odds_86, E_X11_odds_89, E_X11_odds_90, E_X11_odds_91, E_X11_odds_94, E_X11_odds_97, E_X11_odds_100, E_X11_odds_103, E_X11_odds_106, E_X11_odds_108, E_X11_odds_110, E_X11_odds_111, E_X11_odds_114, rk_0, rc_83, rg_0_0, hht, b1, q, q2, gb_0, gb_1, g1_0, eno, List.map_nil, List.map_cons, List.sum_cons, List.sum_nil, gcat_i, gcat_r, gcat_l, Nat.reduceAdd, Nat.reduceLeDiff, Nat.zero_le, Option.toList, List.cons_append, List.nil_append, gnk_i, gnk_r, gnk_n, gi_1, Nat.reduceLT, if_true, if_false]
        exact hq s cT_refl
    | true =>
      obtain ⟨j, hj, hj2, e2⟩ := (gB_ab (a := 1) (b := 20) (by omega) (by omega)).mp b2
      subst e2
      have q : ¬ nI j < 1 := nI_nlt (b := 1) hj (by omega)
      have q2 : ¬ (20 : Int32) < nI j := nI_nlt (a := 20) hj2 (by omega)
      cases b3 : gB_in y 0 1 with
      | false =>
        rw [b1, b2, b3, Bool.true_and, Bool.true_and, if_pos rfl] at hq
        simp only [E_X11_odds_0, E_X11_odds_1, E_X11_odds_4, E_X11_odds_5, E_X11_odds_8, E_X11_odds_11, E_X11_odds_12, E_X11_odds_13, E_X11_odds_16, E_X11_odds_17, E_X11_odds_19, E_X11_odds_22, E_X11_odds_23, E_X11_odds_24, E_X11_odds_27, E_X11_odds_30, E_X11_odds_33, E_X11_odds_34, E_X11_odds_35, E_X11_odds_37, E_X11_odds_38, E_X11_odds_42, E_X11_odds_44, E_X11_odds_47, E_X11_odds_48, E_X11_odds_51, E_X11_odds_52, E_X11_odds_55, E_X11_odds_58, E_X11_odds_59, E_X11_odds_62, E_X11_odds_65, E_X11_odds_66, E_X11_odds_69, E_X11_odds_72, E_X11_odds_73, E_X11_odds_74, E_X11_odds_76, E_X11_odds_77, E_X11_odds_78, E_X11_odds_81, E_X11_odds_82, E_X11_odds_85, E_X11_odds_86, E_X11_odds_89, E_X11_odds_90, E_X11_odds_91, E_X11_odds_94, E_X11_odds_97, E_X11_odds_100, E_X11_odds_103, E_X11_odds_106, E_X11_odds_108, E_X11_odds_110, E_X11_odds_111, E_X11_odds_114, rk_0, rc_83, rg_0_0, hht, hw, b1, b3, q, q2, gb_0, gb_1, g1_0, eno, List.map_nil, List.map_cons, List.sum_cons, List.sum_nil, gcat_i, gcat_r, gcat_l, Nat.reduceAdd, Nat.reduceLeDiff, Nat.zero_le, Option.toList, List.cons_append, List.nil_append, gnk_i, gnk_r, gnk_n, gi_1, Nat.reduceLT, if_true, if_false]
        exact hq s cT_refl
      | true =>
        rw [b1, b2, b3, Bool.true_and, Bool.true_and, if_neg (by decide)] at hq
        obtain ⟨t, ht, e⟩ := gA_of_ex b1 (by omega)
        subst e
        have c1 : (nI t).toNatClampNeg = t := nI_clamp (by omega)
        have c2 : (nI j).toNatClampNeg = j := nI_clamp (by omega)
        rw [c1, c2] at hq
        simp only [E_X11_odds_0, E_X11_odds_1, E_X11_odds_4, E_X11_odds_5, E_X11_odds_8, E_X11_odds_11, E_X11_odds_12, E_X11_odds_13, E_X11_odds_16, E_X11_odds_17, E_X11_odds_19, E_X11_odds_22, E_X11_odds_23, E_X11_odds_24, E_X11_odds_27, E_X11_odds_30, E_X11_odds_33, E_X11_odds_34, E_X11_odds_35, E_X11_odds_37, E_X11_odds_38, E_X11_odds_42, E_X11_odds_44, E_X11_odds_47, E_X11_odds_48, E_X11_odds_51, E_X11_odds_52, E_X11_odds_55, E_X11_odds_58, E_X11_odds_59, E_X11_odds_62, E_X11_odds_65, E_X11_odds_66, E_X11_odds_69, E_X11_odds_72, E_X11_odds_73, E_X11_odds_74, E_X11_odds_76, E_X11_odds_77, E_X11_odds_78, E_X11_odds_81, E_X11_odds_82, E_X11_odds_85, E_X11_odds_86, E_X11_odds_89, E_X11_odds_90, E_X11_odds_91, E_X11_odds_94, E_X11_odds_97, E_X11_odds_100, E_X11_odds_103, E_X11_odds_106, E_X11_odds_108, E_X11_odds_110, E_X11_odds_111, E_X11_odds_114, rk_0, rc_83, rg_0_0, hht, hw, b1, b3, q, q2, gb_1, g1_0, List.map_nil, List.map_cons, List.sum_cons, List.sum_nil, gcat_i, gcat_r, gcat_l, Nat.reduceAdd, Nat.reduceLeDiff, Nat.zero_le, Option.toList, List.cons_append, List.nil_append, gnk_i, gnk_r, gnk_n, gi_1, Nat.reduceLT, if_true, if_false]
        rw [← nI_0]
        refine c_odds_loop (s0 := s) hk hh (by omega) ht 10 0 0 s (by omega) cT_refl hR (fun s2 l5 hT2 => ?_)
        have hle := gOd_le (p := p) (t := t) (n := j) (m := 10) (k := 0)
        have hlo := fun (Q : Option Value → gc_M → Prop) => c_lowest (w := w) (d := d + 4) (s := s2) (Q := Q) (x := y) (a := gOd p t j 10 0) (b := 10) (by omega) (by omega) (by omega)
        rw [show nI 10 = 10 from rfl] at hlo
        simp only [E_X11_odds_0, E_X11_odds_1, E_X11_odds_4, E_X11_odds_5, E_X11_odds_8, E_X11_odds_11, E_X11_odds_12, E_X11_odds_13, E_X11_odds_16, E_X11_odds_17, E_X11_odds_19, E_X11_odds_22, E_X11_odds_23, E_X11_odds_24, E_X11_odds_27, E_X11_odds_30, E_X11_odds_33, E_X11_odds_34, E_X11_odds_35, E_X11_odds_37, E_X11_odds_38, E_X11_odds_42, E_X11_odds_44, E_X11_odds_47, E_X11_odds_48, E_X11_odds_51, E_X11_odds_52, E_X11_odds_55, E_X11_odds_58, E_X11_odds_59, E_X11_odds_62, E_X11_odds_65, E_X11_odds_66, E_X11_odds_69, E_X11_odds_72, E_X11_odds_73, E_X11_odds_74, E_X11_odds_76, E_X11_odds_77, E_X11_odds_78, E_X11_odds_81, E_X11_odds_82, E_X11_odds_85, E_X11_odds_86, E_X11_odds_89, E_X11_odds_90, E_X11_odds_91, E_X11_odds_94, E_X11_odds_97, E_X11_odds_100, E_X11_odds_103, E_X11_odds_106, E_X11_odds_108, E_X11_odds_110, E_X11_odds_111, E_X11_odds_114, Nat.zero_add, hlo, List.map_nil, List.map_cons, List.sum_cons, List.sum_nil, gcat_i, gcat_r, gcat_l, Nat.reduceAdd, Nat.reduceLeDiff, Nat.zero_le, Option.toList, List.cons_append, List.nil_append, gnk_i, gnk_r, gnk_n, gi_1, Nat.reduceLT, if_true, if_false]
        exact hq s2 hT2
theorem c_mean_loop {y z : Int32} (hR : gR s 83 f m p) (hk : gA_ok p) (h4 : gA_k4 p) : ∀ (j t g : Nat), t + j = p.1.2.2 → gc_X w (d + 2) 82 30 [some (.ref 0), some (.int y), some (.int z), some (.int (nI g)), some (.int (nI t))] [] (gm_m s) Q = gc_X w (d + 2) 82 74 [some (.ref 0), some (.int y), some (.int z), some (.int (nI (g + gMn p j t))), some (.int (nI p.1.2.2))] [] (gm_m s) Q := by
  intro j
  have k8 := hk.2.1
  have h9 : s.1 83 9 = nI p.1.2.2 := hR.2.2.2.2.2.2.1
  induction j with
  | zero =>
    intro t g ht
    have e : p.1.2.2 = t := by omega
    rw [e] at h9 ⊢
    rw [E_X11_mean_30]
    simp only [E_X11_mean_0, E_X11_mean_1, E_X11_mean_4, E_X11_mean_5, E_X11_mean_8, E_X11_mean_9, E_X11_mean_10, E_X11_mean_13, E_X11_mean_14, E_X11_mean_15, E_X11_mean_18, E_X11_mean_21, E_X11_mean_24, E_X11_mean_25, E_X11_mean_26, E_X11_mean_27, E_X11_mean_28, E_X11_mean_32, E_X11_mean_33, E_X11_mean_36, E_X11_mean_39, E_X11_mean_42, E_X11_mean_43, E_X11_mean_46, E_X11_mean_48, E_X11_mean_49, E_X11_mean_52, E_X11_mean_55, E_X11_mean_56, E_X11_mean_57, E_X11_mean_60, E_X11_mean_63, E_X11_mean_65, E_X11_mean_66, E_X11_mean_67, E_X11_mean_68, E_X11_mean_71, E_X11_mean_75, E_X11_mean_76, E_X11_mean_77, E_X11_mean_80, rk_0, rk_83, rg_0_0, rg_83_9, h9, nI_le (Nat.le_refl t) (by omega : t < 2 ^ 31), gMn, Nat.add_zero, gnk_i, gnk_r, gnk_n, gi_1, Nat.reduceLT, if_true, if_false]
  | succ j ih =>
    intro t g ht
    have htl : t < p.1.2.2 := by omega
    have i3 : vp_in (nI t) 8 := vp_in_nI (by omega) (by omega)
    have i4 : (nI t).toNatClampNeg = t := nI_clamp (by omega)
    have a12 : s.1 95 t = p.2.1 12 t := hR.2.2.2.2.2.2.2.1 12 t (Or.inr (Or.inr (Or.inr ⟨by omega, by omega, htl⟩)))
    obtain ⟨v, hv, e2⟩ := h4 t htl
    have c : (nI v).toNatClampNeg = v := nI_clamp (by omega)
    have hge : ¬ nI p.1.2.2 ≤ nI t := nI_ge (by omega) (by omega)
    have hi := fun g => ih (t + 1) g (by omega)
    rw [nI_succ] at hi
    have z1 : nI g + nI v = nI (g + v) := nI_add _ _
    have hin := fun (z : Int32) (Q : Option Value → gc_M → Prop) => gy_isIn (w := w) (d := d) (x := nI t) (z := z) (Q := Q) hR hk
    simp only [gA_isIn_t htl hk] at hin
    rw [E_X11_mean_30, gMn]
    by_cases h0 : p.2.1 14 t = 0
    · rw [if_pos h0, e2, c, ← Nat.add_assoc]
      simp only [E_X11_mean_0, E_X11_mean_1, E_X11_mean_4, E_X11_mean_5, E_X11_mean_8, E_X11_mean_9, E_X11_mean_10, E_X11_mean_13, E_X11_mean_14, E_X11_mean_15, E_X11_mean_18, E_X11_mean_21, E_X11_mean_24, E_X11_mean_25, E_X11_mean_26, E_X11_mean_27, E_X11_mean_28, E_X11_mean_32, E_X11_mean_33, E_X11_mean_36, E_X11_mean_39, E_X11_mean_42, E_X11_mean_43, E_X11_mean_46, E_X11_mean_48, E_X11_mean_49, E_X11_mean_52, E_X11_mean_55, E_X11_mean_56, E_X11_mean_57, E_X11_mean_60, E_X11_mean_63, E_X11_mean_65, E_X11_mean_66, E_X11_mean_67, E_X11_mean_68, E_X11_mean_71, E_X11_mean_75, E_X11_mean_76, E_X11_mean_77, E_X11_mean_80, rk_0, rk_83, rc_83, rg_0_0, rg_83_9, rg_83_10, ra_95, rv_95, h9, hge, i3, i4, a12, e2, hin, h0, decide_true, gb_1, g1_0, z1, hi, List.map_nil, List.map_cons, List.sum_cons, List.sum_nil, gcat_i, gcat_r, gcat_l, Nat.reduceAdd, Nat.reduceLeDiff, Nat.zero_le, Option.toList, List.cons_append, List.nil_append, gnk_i, gnk_r, gnk_n, gi_1, Nat.reduceLT, if_true, if_false]
    · rw [if_neg h0, Nat.zero_add]
      simp only [E_X11_mean_0, E_X11_mean_1, E_X11_mean_4, E_X11_mean_5, E_X11_mean_8, E_X11_mean_9, E_X11_mean_10, E_X11_mean_13, E_X11_mean_14, E_X11_mean_15, E_X11_mean_18, E_X11_mean_21, E_X11_mean_24, E_X11_mean_25, E_X11_mean_26, E_X11_mean_27, E_X11_mean_28, E_X11_mean_32, E_X11_mean_33, E_X11_mean_36, E_X11_mean_39, E_X11_mean_42, E_X11_mean_43, E_X11_mean_46, E_X11_mean_48, E_X11_mean_49, E_X11_mean_52, E_X11_mean_55, E_X11_mean_56, E_X11_mean_57, E_X11_mean_60, E_X11_mean_63, E_X11_mean_65, E_X11_mean_66, E_X11_mean_67, E_X11_mean_68, E_X11_mean_71, E_X11_mean_75, E_X11_mean_76, E_X11_mean_77, E_X11_mean_80, rk_0, rk_83, rc_83, rg_0_0, rg_83_9, h9, hge, hin, h0, decide_false, gb_0, hi, List.map_nil, List.map_cons, List.sum_cons, List.sum_nil, gcat_i, gcat_r, gcat_l, Nat.reduceAdd, Nat.reduceLeDiff, Nat.zero_le, Option.toList, List.cons_append, List.nil_append, gnk_i, gnk_r, gnk_n, gi_1, Nat.reduceLT, if_true, if_false]
theorem c_mean {y : Int32} (hR : gR s 83 f m p) (hk : gA_ok p) (h4 : gA_k4 p) : gc_X w (d + 2) 82 0 [some (.ref 0), some (.int y), none, none, none] [] (gm_m s) Q = Q (some (.long (a_mean p y))) (gm_m s) := by
  have k8 := hk.2.1
  have hw := fun (a b : Int32) (Q : Option Value → gc_M → Prop) => c_within (w := w) (d := d + 1) (s := s) (x := a) (y := b) (Q := Q)
  have hcn := fun (z : Int32) (Q : Option Value → gc_M → Prop) => gy_howMany (w := w) (d := d) (z := z) (Q := Q) hR hk
  have eno : (-9223372036854775808 : Int64) = gNO := rfl
  obtain ⟨k, hk8, e⟩ := gA_cnt_ex (p := p) (z := 0) hk
  have ck : (nI k).toNatClampNeg = k := nI_clamp (by omega)
  have hc0 := fun (Q : Option Value → gc_M → Prop) => hcn 0 Q
  unfold a_mean
  rw [e] at hc0 ⊢
  rw [ck]
  by_cases h0 : k = 0
  · subst h0
    rw [show (!decide (nI 0 = 0)) = false from rfl, Bool.and_false, if_pos rfl]
    simp only [E_X11_mean_0, E_X11_mean_1, E_X11_mean_4, E_X11_mean_5, E_X11_mean_8, E_X11_mean_9, E_X11_mean_10, E_X11_mean_13, E_X11_mean_14, E_X11_mean_15, E_X11_mean_18, E_X11_mean_21, E_X11_mean_24, E_X11_mean_25, E_X11_mean_26, E_X11_mean_27, E_X11_mean_28, E_X11_mean_32, E_X11_mean_33, E_X11_mean_36, E_X11_mean_39, E_X11_mean_42, E_X11_mean_43, E_X11_mean_46, E_X11_mean_48, E_X11_mean_49, E_X11_mean_52, E_X11_mean_55, E_X11_mean_56, E_X11_mean_57, E_X11_mean_60, E_X11_mean_63, E_X11_mean_65, E_X11_mean_66, E_X11_mean_67, E_X11_mean_68, E_X11_mean_71, E_X11_mean_74, E_X11_mean_75, E_X11_mean_76, E_X11_mean_77, E_X11_mean_80, rk_0, rc_83, rg_0_0, hc0, nI_0, eno, List.map_nil, List.map_cons, List.sum_cons, List.sum_nil, gcat_i, gcat_r, gcat_l, Nat.reduceAdd, Nat.reduceLeDiff, Nat.zero_le, Option.toList, List.cons_append, List.nil_append, gnk_i, gnk_r, gnk_n, gi_1, Nat.reduceLT, if_true, if_false]
  · have hz : ¬ nI k = 0 := nI_ne0 (by omega) (by omega)
    rw [show (!decide (nI k = 0)) = true by rw [decide_eq_false hz]; rfl, Bool.and_true]
    cases b1 : gB_in y 0 1 with
    | false =>
      rw [if_pos rfl]
      simp only [E_X11_mean_0, E_X11_mean_1, E_X11_mean_4, E_X11_mean_5, E_X11_mean_8, E_X11_mean_9, E_X11_mean_10, E_X11_mean_13, E_X11_mean_14, E_X11_mean_15, E_X11_mean_18, E_X11_mean_21, E_X11_mean_24, E_X11_mean_25, E_X11_mean_26, E_X11_mean_27, E_X11_mean_28, E_X11_mean_32, E_X11_mean_33, E_X11_mean_36, E_X11_mean_39, E_X11_mean_42, E_X11_mean_43, E_X11_mean_46, E_X11_mean_48, E_X11_mean_49, E_X11_mean_52, E_X11_mean_55, E_X11_mean_56, E_X11_mean_57, E_X11_mean_60, E_X11_mean_63, E_X11_mean_65, E_X11_mean_66, E_X11_mean_67, E_X11_mean_68, E_X11_mean_71, E_X11_mean_74, E_X11_mean_75, E_X11_mean_76, E_X11_mean_77, E_X11_mean_80, rk_0, rc_83, rg_0_0, hc0, hw, hz, b1, gb_0, eno, List.map_nil, List.map_cons, List.sum_cons, List.sum_nil, gcat_i, gcat_r, gcat_l, Nat.reduceAdd, Nat.reduceLeDiff, Nat.zero_le, Option.toList, List.cons_append, List.nil_append, gnk_i, gnk_r, gnk_n, gi_1, Nat.reduceLT, if_true, if_false]
    | true =>
      rw [if_neg (by decide)]
      have hle := gMn_le h4 (m := p.1.2.2) (t := 0) (by omega)
      have hlo := fun (Q : Option Value → gc_M → Prop) => c_lowest (w := w) (d := d + 1) (s := s) (Q := Q) (x := y) (a := gMn p p.1.2.2 0) (b := k) (by omega) (by omega) (by omega)
      have hl := c_mean_loop (w := w) (d := d) (s := s) (Q := Q) (y := y) (z := nI k) hR hk h4 p.1.2.2 0 0 (by omega)
      rw [Nat.zero_add, nI_0] at hl
      simp only [E_X11_mean_0, E_X11_mean_1, E_X11_mean_4, E_X11_mean_5, E_X11_mean_8, E_X11_mean_9, E_X11_mean_10, E_X11_mean_13, E_X11_mean_14, E_X11_mean_15, E_X11_mean_18, E_X11_mean_21, E_X11_mean_24, E_X11_mean_25, E_X11_mean_26, E_X11_mean_27, E_X11_mean_28, E_X11_mean_32, E_X11_mean_33, E_X11_mean_36, E_X11_mean_39, E_X11_mean_42, E_X11_mean_43, E_X11_mean_46, E_X11_mean_48, E_X11_mean_49, E_X11_mean_52, E_X11_mean_55, E_X11_mean_56, E_X11_mean_57, E_X11_mean_60, E_X11_mean_63, E_X11_mean_65, E_X11_mean_66, E_X11_mean_67, E_X11_mean_68, E_X11_mean_71, E_X11_mean_75, E_X11_mean_76, E_X11_mean_77, E_X11_mean_80, rk_0, rc_83, rg_0_0, hc0, hw, hz, b1, gb_1, g1_0, List.map_nil, List.map_cons, List.sum_cons, List.sum_nil, gcat_i, gcat_r, gcat_l, Nat.reduceAdd, Nat.reduceLeDiff, Nat.zero_le, Option.toList, List.cons_append, List.nil_append, gnk_i, gnk_r, gnk_n, gi_1, Nat.reduceLT, if_true, if_false]
      rw [hl]
      simp only [E_X11_mean_0, E_X11_mean_1, E_X11_mean_4, E_X11_mean_5, E_X11_mean_8, E_X11_mean_9, E_X11_mean_10, E_X11_mean_13, E_X11_mean_14, E_X11_mean_15, E_X11_mean_18, E_X11_mean_21, E_X11_mean_24, E_X11_mean_25, E_X11_mean_26, E_X11_mean_27, E_X11_mean_28, E_X11_mean_32, E_X11_mean_33, E_X11_mean_36, E_X11_mean_39, E_X11_mean_42, E_X11_mean_43, E_X11_mean_46, E_X11_mean_48, E_X11_mean_49, E_X11_mean_52, E_X11_mean_55, E_X11_mean_56, E_X11_mean_57, E_X11_mean_60, E_X11_mean_63, E_X11_mean_65, E_X11_mean_66, E_X11_mean_67, E_X11_mean_68, E_X11_mean_71, E_X11_mean_74, E_X11_mean_75, E_X11_mean_76, E_X11_mean_77, E_X11_mean_80, hlo, List.map_nil, List.map_cons, List.sum_cons, List.sum_nil, gcat_i, gcat_r, gcat_l, Nat.reduceAdd, Nat.reduceLeDiff, Nat.zero_le, Option.toList, List.cons_append, List.nil_append, gnk_i, gnk_r, gnk_n, gi_1, Nat.reduceLT, if_true, if_false]
end
/-- the plan -/
def cPl (s : gm_S) (l : List (Nat × Nat)) : Prop := s.1 9 3 = nI l.length ∧ l.length ≤ 10 ∧ ∀ i r, l[i]? = some r → s.1 10 i = nI r.1 ∧ (r.1 ≠ 0 → s.1 11 i = nI r.2)
theorem cPl_cg {s s' : gm_S} {l : List (Nat × Nat)} (h : cPl s l) (e : ∀ b j, 9 ≤ b → b ≤ 12 → s'.1 b j = s.1 b j) : cPl s' l := by
  refine ⟨(e 9 3 (by omega) (by omega)).trans h.1, h.2.1, fun i r hr => ?_⟩
  obtain ⟨a, b⟩ := h.2.2 i r hr
  exact ⟨(e 10 i (by omega) (by omega)).trans a, fun q => (e 11 i (by omega) (by omega)).trans (b q)⟩
theorem cPl_T {s s' : gm_S} {l : List (Nat × Nat)} (h : cPl s l) (e : cT s s') : cPl s' l := cPl_cg h (fun b j _ q => e.2.2 b j (by omega))
section
variable {w : Nat × (Nat → Int32)} {d f m : Nat} {s : gm_S} {p : gA} {Q : Option Value → gc_M → Prop} {x : Int32}
theorem c_goPlan {r : Nat × Nat} {y : Int32} {s0 : gm_S} (hk : gA_ok p) (hh : p.1.1 + 1 < 2 ^ 30) (hR : gR s 101 f m p) (h3 : r.1 ≤ 3) (ht : r.1 ≠ 0 → r.2 < p.1.2.2) (hy : r.1 ≠ 0 → y = nI r.2) (hT : cT s0 s) (hq : ∀ s', cT s0 s' → gR s' 101 f m (gA_plan p r) → Q none (gm_m s')) : gc_X w (d + 5) 108 0 [some (.ref 0), some (.int (nI r.1)), some (.int y)] [] (gm_m s) Q := by
  obtain ⟨a, t⟩ := r
  have k6 := hk.1
  have k8 := hk.2.1
  dsimp only at h3 ht hy ⊢
  have c : a = 0 ∨ a = 1 ∨ a = 2 ∨ a = 3 := by omega
  rcases c with rfl | rfl | rfl | rfl
  · rw [nI_0]
    have ep : gA_plan p (0, t) = gA_go 1 p := rfl
    rw [ep] at hq
    simp only [E_X11_goPlanRow_0, E_X11_goPlanRow_1, E_X11_goPlanRow_4, E_X11_goPlanRow_5, E_X11_goPlanRow_8, E_X11_goPlanRow_9, E_X11_goPlanRow_12, E_X11_goPlanRow_13, E_X11_goPlanRow_14, E_X11_goPlanRow_17, E_X11_goPlanRow_18, E_X11_goPlanRow_21, E_X11_goPlanRow_24, E_X11_goPlanRow_25, E_X11_goPlanRow_26, E_X11_goPlanRow_27, E_X11_goPlanRow_30, E_X11_goPlanRow_31, E_X11_goPlanRow_34, E_X11_goPlanRow_37, E_X11_goPlanRow_38, E_X11_goPlanRow_39, E_X11_goPlanRow_40, E_X11_goPlanRow_41, E_X11_goPlanRow_42, E_X11_goPlanRow_45, E_X11_goPlanRow_46, E_X11_goPlanRow_49, E_X11_goPlanRow_50, E_X11_goPlanRow_51, E_X11_goPlanRow_54, E_X11_goPlanRow_57, E_X11_goPlanRow_58, E_X11_goPlanRow_61, E_X11_goPlanRow_64, E_X11_goPlanRow_65, E_X11_goPlanRow_66, E_X11_goPlanRow_67, E_X11_goPlanRow_68, E_X11_goPlanRow_69, E_X11_goPlanRow_72, E_X11_goPlanRow_73, E_X11_goPlanRow_76, E_X11_goPlanRow_77, E_X11_goPlanRow_78, E_X11_goPlanRow_81, rk_0, rc_101, rg_0_1, List.map_nil, List.map_cons, List.sum_cons, List.sum_nil, gcat_i, gcat_r, gcat_l, Nat.reduceAdd, Nat.reduceLeDiff, Nat.zero_le, Option.toList, List.cons_append, List.nil_append, gnk_i, gnk_r, gnk_n, gi_1, Nat.reduceLT, if_true, if_false]
    rw [show (1 : Int32) = nI 1 from rfl]
    refine gy_go hR hk hh (fun s' hF hR' => ?_)
    simp only [E_X11_goPlanRow_0, E_X11_goPlanRow_1, E_X11_goPlanRow_4, E_X11_goPlanRow_5, E_X11_goPlanRow_8, E_X11_goPlanRow_9, E_X11_goPlanRow_12, E_X11_goPlanRow_13, E_X11_goPlanRow_14, E_X11_goPlanRow_17, E_X11_goPlanRow_18, E_X11_goPlanRow_21, E_X11_goPlanRow_24, E_X11_goPlanRow_25, E_X11_goPlanRow_26, E_X11_goPlanRow_27, E_X11_goPlanRow_30, E_X11_goPlanRow_31, E_X11_goPlanRow_34, E_X11_goPlanRow_37, E_X11_goPlanRow_38, E_X11_goPlanRow_39, E_X11_goPlanRow_40, E_X11_goPlanRow_41, E_X11_goPlanRow_42, E_X11_goPlanRow_45, E_X11_goPlanRow_46, E_X11_goPlanRow_49, E_X11_goPlanRow_50, E_X11_goPlanRow_51, E_X11_goPlanRow_54, E_X11_goPlanRow_57, E_X11_goPlanRow_58, E_X11_goPlanRow_61, E_X11_goPlanRow_64, E_X11_goPlanRow_65, E_X11_goPlanRow_66, E_X11_goPlanRow_67, E_X11_goPlanRow_68, E_X11_goPlanRow_69, E_X11_goPlanRow_72, E_X11_goPlanRow_73, E_X11_goPlanRow_76, E_X11_goPlanRow_77, E_X11_goPlanRow_78, E_X11_goPlanRow_81, List.map_nil, List.map_cons, List.sum_cons, List.sum_nil, gcat_i, gcat_r, gcat_l, Nat.reduceAdd, Nat.reduceLeDiff, Nat.zero_le, Option.toList, List.cons_append, List.nil_append, gnk_i, gnk_r, gnk_n, gi_1, Nat.reduceLT, if_true, if_false]
    exact hq s' (cT_trans hT (cT_F hF)) hR'
  · have htl := ht (by decide)
    rw [hy (by decide)]
    have i3 : vp_in (nI t) 8 := vp_in_nI (by omega) (by omega)
    have i4 : (nI t).toNatClampNeg = t := nI_clamp (by omega)
    have hht := fun (Q : Option Value → gc_M → Prop) => gy_hasThing (w := w) (d := d + 4) (x := nI t) (Q := Q) hR
    rw [gA_of_nI htl (by omega)] at hht
    rw [show nI 1 = 1 from rfl]
    have e1 : ((1 : Int32) = 2) = False := eq_false (by decide)
    have e3 : ((1 : Int32) = 3) = False := eq_false (by decide)
    simp only [E_X11_goPlanRow_0, E_X11_goPlanRow_1, E_X11_goPlanRow_4, E_X11_goPlanRow_5, E_X11_goPlanRow_8, E_X11_goPlanRow_9, E_X11_goPlanRow_12, E_X11_goPlanRow_13, E_X11_goPlanRow_14, E_X11_goPlanRow_17, E_X11_goPlanRow_18, E_X11_goPlanRow_21, E_X11_goPlanRow_24, E_X11_goPlanRow_25, E_X11_goPlanRow_26, E_X11_goPlanRow_27, E_X11_goPlanRow_30, E_X11_goPlanRow_31, E_X11_goPlanRow_34, E_X11_goPlanRow_37, E_X11_goPlanRow_38, E_X11_goPlanRow_39, E_X11_goPlanRow_40, E_X11_goPlanRow_41, E_X11_goPlanRow_42, E_X11_goPlanRow_45, E_X11_goPlanRow_46, E_X11_goPlanRow_49, E_X11_goPlanRow_50, E_X11_goPlanRow_51, E_X11_goPlanRow_54, E_X11_goPlanRow_57, E_X11_goPlanRow_58, E_X11_goPlanRow_61, E_X11_goPlanRow_64, E_X11_goPlanRow_65, E_X11_goPlanRow_66, E_X11_goPlanRow_67, E_X11_goPlanRow_68, E_X11_goPlanRow_69, E_X11_goPlanRow_72, E_X11_goPlanRow_73, E_X11_goPlanRow_76, E_X11_goPlanRow_77, E_X11_goPlanRow_78, E_X11_goPlanRow_81, rk_0, rk_101, rc_101, rg_0_1, rg_101_13, ra_116, rs_116, i3, i4, hht, gb_1, g1_0, e1, e3, List.map_nil, List.map_cons, List.sum_cons, List.sum_nil, gcat_i, gcat_r, gcat_l, Nat.reduceAdd, Nat.reduceLeDiff, Nat.zero_le, Option.toList, List.cons_append, List.nil_append, gnk_i, gnk_r, gnk_n, gi_1, Nat.reduceLT, if_true, if_false]
    exact hq _ (cT_si hT (by omega)) (gR_set (o := 15) hR (by decide) (by decide))
  · have htl := ht (by decide)
    rw [hy (by decide)]
    have i3 : vp_in (nI t) 8 := vp_in_nI (by omega) (by omega)
    have i4 : (nI t).toNatClampNeg = t := nI_clamp (by omega)
    have hht := fun (Q : Option Value → gc_M → Prop) => gy_hasThing (w := w) (d := d + 4) (x := nI t) (Q := Q) hR
    rw [gA_of_nI htl (by omega)] at hht
    have hin := fun (z : Int32) (Q : Option Value → gc_M → Prop) => gy_isIn (w := w) (d := d + 3) (x := nI t) (z := z) (Q := Q) hR hk
    simp only [gA_isIn_t htl hk] at hin
    rw [show nI 2 = 2 from rfl]
    have e0 : ((2 : Int32) = 0) = False := eq_false (by decide)
    have e1 : ((2 : Int32) = 1) = False := eq_false (by decide)
    have e3 : ((2 : Int32) = 3) = False := eq_false (by decide)
    by_cases h0 : p.2.1 14 t = 0
    · have ep : gA_plan p (2, t) = gA_set p 13 t (-1) := if_pos h0
      rw [ep] at hq
      simp only [E_X11_goPlanRow_0, E_X11_goPlanRow_1, E_X11_goPlanRow_4, E_X11_goPlanRow_5, E_X11_goPlanRow_8, E_X11_goPlanRow_9, E_X11_goPlanRow_12, E_X11_goPlanRow_13, E_X11_goPlanRow_14, E_X11_goPlanRow_17, E_X11_goPlanRow_18, E_X11_goPlanRow_21, E_X11_goPlanRow_24, E_X11_goPlanRow_25, E_X11_goPlanRow_26, E_X11_goPlanRow_27, E_X11_goPlanRow_30, E_X11_goPlanRow_31, E_X11_goPlanRow_34, E_X11_goPlanRow_37, E_X11_goPlanRow_38, E_X11_goPlanRow_39, E_X11_goPlanRow_40, E_X11_goPlanRow_41, E_X11_goPlanRow_42, E_X11_goPlanRow_45, E_X11_goPlanRow_46, E_X11_goPlanRow_49, E_X11_goPlanRow_50, E_X11_goPlanRow_51, E_X11_goPlanRow_54, E_X11_goPlanRow_57, E_X11_goPlanRow_58, E_X11_goPlanRow_61, E_X11_goPlanRow_64, E_X11_goPlanRow_65, E_X11_goPlanRow_66, E_X11_goPlanRow_67, E_X11_goPlanRow_68, E_X11_goPlanRow_69, E_X11_goPlanRow_72, E_X11_goPlanRow_73, E_X11_goPlanRow_76, E_X11_goPlanRow_77, E_X11_goPlanRow_78, E_X11_goPlanRow_81, rk_0, rk_101, rc_101, rg_0_1, rg_101_11, ra_114, rs_114, i3, i4, hht, hin, h0, decide_true, gb_1, g1_0, e0, e1, e3, List.map_nil, List.map_cons, List.sum_cons, List.sum_nil, gcat_i, gcat_r, gcat_l, Nat.reduceAdd, Nat.reduceLeDiff, Nat.zero_le, Option.toList, List.cons_append, List.nil_append, gnk_i, gnk_r, gnk_n, gi_1, Nat.reduceLT, if_true, if_false]
      exact hq _ (cT_si hT (by omega)) (gR_set (o := 13) hR (by decide) (by decide))
    · have ep : gA_plan p (2, t) = p := if_neg h0
      rw [ep] at hq
      simp only [E_X11_goPlanRow_0, E_X11_goPlanRow_1, E_X11_goPlanRow_4, E_X11_goPlanRow_5, E_X11_goPlanRow_8, E_X11_goPlanRow_9, E_X11_goPlanRow_12, E_X11_goPlanRow_13, E_X11_goPlanRow_14, E_X11_goPlanRow_17, E_X11_goPlanRow_18, E_X11_goPlanRow_21, E_X11_goPlanRow_24, E_X11_goPlanRow_25, E_X11_goPlanRow_26, E_X11_goPlanRow_27, E_X11_goPlanRow_30, E_X11_goPlanRow_31, E_X11_goPlanRow_34, E_X11_goPlanRow_37, E_X11_goPlanRow_38, E_X11_goPlanRow_39, E_X11_goPlanRow_40, E_X11_goPlanRow_41, E_X11_goPlanRow_42, E_X11_goPlanRow_45, E_X11_goPlanRow_46, E_X11_goPlanRow_49, E_X11_goPlanRow_50, E_X11_goPlanRow_51, E_X11_goPlanRow_54, E_X11_goPlanRow_57, E_X11_goPlanRow_58, E_X11_goPlanRow_61, E_X11_goPlanRow_64, E_X11_goPlanRow_65, E_X11_goPlanRow_66, E_X11_goPlanRow_67, E_X11_goPlanRow_68, E_X11_goPlanRow_69, E_X11_goPlanRow_72, E_X11_goPlanRow_73, E_X11_goPlanRow_76, E_X11_goPlanRow_77, E_X11_goPlanRow_78, E_X11_goPlanRow_81, rk_0, rk_101, rc_101, rg_0_1, i3, i4, hht, hin, h0, decide_false, gb_0, gb_1, g1_0, e0, e1, e3, List.map_nil, List.map_cons, List.sum_cons, List.sum_nil, gcat_i, gcat_r, gcat_l, Nat.reduceAdd, Nat.reduceLeDiff, Nat.zero_le, Option.toList, List.cons_append, List.nil_append, gnk_i, gnk_r, gnk_n, gi_1, Nat.reduceLT, if_true, if_false]
      exact hq _ hT hR
  · have htl := ht (by decide)
    rw [hy (by decide)]
    have hht := fun (Q : Option Value → gc_M → Prop) => gy_hasThing (w := w) (d := d + 4) (x := nI t) (Q := Q) hR
    rw [gA_of_nI htl (by omega)] at hht
    rw [show nI 3 = 3 from rfl]
    have e0 : ((3 : Int32) = 0) = False := eq_false (by decide)
    have e1 : ((3 : Int32) = 1) = False := eq_false (by decide)
    have e2 : ((3 : Int32) = 2) = False := eq_false (by decide)
    simp only [E_X11_goPlanRow_0, E_X11_goPlanRow_1, E_X11_goPlanRow_4, E_X11_goPlanRow_5, E_X11_goPlanRow_8, E_X11_goPlanRow_9, E_X11_goPlanRow_12, E_X11_goPlanRow_13, E_X11_goPlanRow_14, E_X11_goPlanRow_17, E_X11_goPlanRow_18, E_X11_goPlanRow_21, E_X11_goPlanRow_24, E_X11_goPlanRow_25, E_X11_goPlanRow_26, E_X11_goPlanRow_27, E_X11_goPlanRow_30, E_X11_goPlanRow_31, E_X11_goPlanRow_34, E_X11_goPlanRow_37, E_X11_goPlanRow_38, E_X11_goPlanRow_39, E_X11_goPlanRow_40, E_X11_goPlanRow_41, E_X11_goPlanRow_42, E_X11_goPlanRow_45, E_X11_goPlanRow_46, E_X11_goPlanRow_49, E_X11_goPlanRow_50, E_X11_goPlanRow_51, E_X11_goPlanRow_54, E_X11_goPlanRow_57, E_X11_goPlanRow_58, E_X11_goPlanRow_61, E_X11_goPlanRow_64, E_X11_goPlanRow_65, E_X11_goPlanRow_66, E_X11_goPlanRow_67, E_X11_goPlanRow_68, E_X11_goPlanRow_69, E_X11_goPlanRow_72, E_X11_goPlanRow_73, E_X11_goPlanRow_76, E_X11_goPlanRow_77, E_X11_goPlanRow_78, E_X11_goPlanRow_81, rk_0, rc_101, rg_0_1, hht, gb_1, g1_0, e0, e1, e2, List.map_nil, List.map_cons, List.sum_cons, List.sum_nil, gcat_i, gcat_r, gcat_l, Nat.reduceAdd, Nat.reduceLeDiff, Nat.zero_le, Option.toList, List.cons_append, List.nil_append, gnk_i, gnk_r, gnk_n, gi_1, Nat.reduceLT, if_true, if_false]
    refine gy_setFresh hR (by omega) (fun s' hF hR' => ?_)
    simp only [E_X11_goPlanRow_0, E_X11_goPlanRow_1, E_X11_goPlanRow_4, E_X11_goPlanRow_5, E_X11_goPlanRow_8, E_X11_goPlanRow_9, E_X11_goPlanRow_12, E_X11_goPlanRow_13, E_X11_goPlanRow_14, E_X11_goPlanRow_17, E_X11_goPlanRow_18, E_X11_goPlanRow_21, E_X11_goPlanRow_24, E_X11_goPlanRow_25, E_X11_goPlanRow_26, E_X11_goPlanRow_27, E_X11_goPlanRow_30, E_X11_goPlanRow_31, E_X11_goPlanRow_34, E_X11_goPlanRow_37, E_X11_goPlanRow_38, E_X11_goPlanRow_39, E_X11_goPlanRow_40, E_X11_goPlanRow_41, E_X11_goPlanRow_42, E_X11_goPlanRow_45, E_X11_goPlanRow_46, E_X11_goPlanRow_49, E_X11_goPlanRow_50, E_X11_goPlanRow_51, E_X11_goPlanRow_54, E_X11_goPlanRow_57, E_X11_goPlanRow_58, E_X11_goPlanRow_61, E_X11_goPlanRow_64, E_X11_goPlanRow_65, E_X11_goPlanRow_66, E_X11_goPlanRow_67, E_X11_goPlanRow_68, E_X11_goPlanRow_69, E_X11_goPlanRow_72, E_X11_goPlanRow_73, E_X11_goPlanRow_76, E_X11_goPlanRow_77, E_X11_goPlanRow_78, E_X11_goPlanRow_81, List.map_nil, List.map_cons, List.sum_cons, List.sum_nil, gcat_i, gcat_r, gcat_l, Nat.reduceAdd, Nat.reduceLeDiff, Nat.zero_le, Option.toList, List.cons_append, List.nil_append, gnk_i, gnk_r, gnk_n, gi_1, Nat.reduceLT, if_true, if_false]
    exact hq s' (cT_trans hT (cT_F hF)) hR'
theorem c_plans_loop {s0 : gm_S} {y : Int32} {l : List (Nat × Nat)} (hP0 : cPl s0 l) : ∀ (n i : Nat) (s : gm_S) (p : gA), i + n = l.length → gA_ok p → gA_k2 p → p.1.1 ≤ 10000 + i → gPl_ok p.1.2.2 l → gR s 101 f m p → cT s0 s → (∀ s' q l2, gA_plans (l.drop i) p = q → gA_ok q → cT s0 s' → gR s' 101 f m q → gc_X w (d + 6) 84 62 [some (.ref 0), some (.int y), l2] [] (gm_m s') Q) → gc_X w (d + 6) 84 23 [some (.ref 0), some (.int y), some (.int (nI i))] [] (gm_m s) Q := by
  intro n
  induction n with
  | zero =>
    intro i s p hi hk hk2 hh hl hR hT hq
    have hP := cPl_T hP0 hT
    have h1 := hP.1
    have h10 := hP.2.1
    have e : l.length = i := by omega
    rw [e] at h1
    rw [E_X11_ends_23]
    simp only [E_X11_ends_0, E_X11_ends_1, E_X11_ends_2, E_X11_ends_5, E_X11_ends_8, E_X11_ends_9, E_X11_ends_10, E_X11_ends_11, E_X11_ends_14, E_X11_ends_15, E_X11_ends_18, E_X11_ends_21, E_X11_ends_22, E_X11_ends_24, E_X11_ends_25, E_X11_ends_28, E_X11_ends_31, E_X11_ends_34, E_X11_ends_35, E_X11_ends_36, E_X11_ends_39, E_X11_ends_42, E_X11_ends_43, E_X11_ends_44, E_X11_ends_45, E_X11_ends_48, E_X11_ends_51, E_X11_ends_52, E_X11_ends_53, E_X11_ends_56, E_X11_ends_59, E_X11_ends_63, E_X11_ends_66, E_X11_ends_67, E_X11_ends_70, E_X11_ends_71, E_X11_ends_74, E_X11_ends_75, E_X11_ends_78, rk_0, rk_9, rg_0_5, rg_9_3, h1, nI_le (Nat.le_refl i) (by omega : i < 2 ^ 31), gnk_i, gnk_r, gnk_n, gi_1, Nat.reduceLT, if_true, if_false]
    refine hq s p _ ?_ hk hT hR
    rw [List.drop_of_length_le (by omega)]
    rfl
  | succ n ih =>
    intro i s p hi hk hk2 hh hl hR hT hq
    have hP := cPl_T hP0 hT
    have h1 := hP.1
    have h10 := hP.2.1
    have hil : i < l.length := by omega
    have hg : l[i]? = some l[i] := List.getElem?_eq_getElem hil
    obtain ⟨w1, w2⟩ := hP.2.2 i _ hg
    obtain ⟨q1, q2⟩ := hl _ (List.getElem_mem hil)
    have j1 : vp_in (nI i) 10 := vp_in_nI (by omega) (by omega)
    have j2 : (nI i).toNatClampNeg = i := nI_clamp (by omega)
    have hge : ¬ nI l.length ≤ nI i := nI_ge (by omega) (by omega)
    have hi2 := ih (i + 1)
    rw [nI_succ] at hi2
    rw [List.drop_eq_getElem_cons hil] at hq
    have hn := gA_plan_n (p := p) (r := l[i])
    have ho := gA_plan_ok (r := l[i]) hk hk2 (by omega)
    rw [E_X11_ends_23]
    simp only [E_X11_ends_0, E_X11_ends_1, E_X11_ends_2, E_X11_ends_5, E_X11_ends_8, E_X11_ends_9, E_X11_ends_10, E_X11_ends_11, E_X11_ends_14, E_X11_ends_15, E_X11_ends_18, E_X11_ends_21, E_X11_ends_22, E_X11_ends_24, E_X11_ends_25, E_X11_ends_28, E_X11_ends_31, E_X11_ends_34, E_X11_ends_35, E_X11_ends_36, E_X11_ends_39, E_X11_ends_42, E_X11_ends_43, E_X11_ends_44, E_X11_ends_45, E_X11_ends_48, E_X11_ends_51, E_X11_ends_52, E_X11_ends_53, E_X11_ends_56, E_X11_ends_59, E_X11_ends_63, E_X11_ends_66, E_X11_ends_67, E_X11_ends_70, E_X11_ends_71, E_X11_ends_74, E_X11_ends_75, E_X11_ends_78, rk_0, rk_9, rc_0, rg_0_5, rg_9_0, rg_9_1, rg_9_3, ra_10, rv_10, ra_11, rv_11, h1, hge, j1, j2, w1, List.map_nil, List.map_cons, List.sum_cons, List.sum_nil, gcat_i, gcat_r, gcat_l, Nat.reduceAdd, Nat.reduceLeDiff, Nat.zero_le, Option.toList, List.cons_append, List.nil_append, gnk_i, gnk_r, gnk_n, gi_1, Nat.reduceLT, if_true, if_false]
    refine c_goPlan hk (by omega) hR q1 q2 w2 hT (fun s' hT' hR' => ?_)
    simp only [E_X11_ends_0, E_X11_ends_1, E_X11_ends_2, E_X11_ends_5, E_X11_ends_8, E_X11_ends_9, E_X11_ends_10, E_X11_ends_11, E_X11_ends_14, E_X11_ends_15, E_X11_ends_18, E_X11_ends_21, E_X11_ends_22, E_X11_ends_24, E_X11_ends_25, E_X11_ends_28, E_X11_ends_31, E_X11_ends_34, E_X11_ends_35, E_X11_ends_36, E_X11_ends_39, E_X11_ends_42, E_X11_ends_43, E_X11_ends_44, E_X11_ends_45, E_X11_ends_48, E_X11_ends_51, E_X11_ends_52, E_X11_ends_53, E_X11_ends_56, E_X11_ends_59, E_X11_ends_63, E_X11_ends_66, E_X11_ends_67, E_X11_ends_70, E_X11_ends_71, E_X11_ends_74, E_X11_ends_75, E_X11_ends_78, List.map_nil, List.map_cons, List.sum_cons, List.sum_nil, gcat_i, gcat_r, gcat_l, Nat.reduceAdd, Nat.reduceLeDiff, Nat.zero_le, Option.toList, List.cons_append, List.nil_append, gnk_i, gnk_r, gnk_n, gi_1, Nat.reduceLT, if_true, if_false]
    exact hi2 s' (gA_plan p l[i]) (by omega) ho.1 ho.2 (by omega) (by rw [hn.1]; exact hl) hR' hT' hq
theorem c_ends {l : List (Nat × Nat)} (hR : gR s 83 f m p) (hk : gA_ok p) (hk2 : gA_k2 p) (hh : p.1.1 ≤ 9999) (hl : gPl_ok p.1.2.2 l) (hP : cPl s l) (hq : ∀ s', cT s s' → Q (some (.int (a_ends p l x))) (gm_m s')) : gc_X w (d + 6) 84 0 [some (.ref 0), some (.int x), none] [] (gm_m s) Q := by
  have hw := fun (a b : Int32) (Q : Option Value → gc_M → Prop) => c_within (w := w) (d := d + 5) (s := s) (x := a) (y := b) (Q := Q)
  unfold a_ends at hq
  cases b1 : gB_in x 0 1 with
  | false =>
    rw [b1, if_pos rfl] at hq
    simp only [E_X11_ends_0, E_X11_ends_1, E_X11_ends_2, E_X11_ends_5, E_X11_ends_8, E_X11_ends_9, E_X11_ends_10, E_X11_ends_11, E_X11_ends_14, E_X11_ends_15, E_X11_ends_18, E_X11_ends_21, E_X11_ends_22, E_X11_ends_24, E_X11_ends_25, E_X11_ends_28, E_X11_ends_31, E_X11_ends_34, E_X11_ends_35, E_X11_ends_36, E_X11_ends_39, E_X11_ends_42, E_X11_ends_43, E_X11_ends_44, E_X11_ends_45, E_X11_ends_48, E_X11_ends_51, E_X11_ends_52, E_X11_ends_53, E_X11_ends_56, E_X11_ends_59, E_X11_ends_62, E_X11_ends_63, E_X11_ends_66, E_X11_ends_67, E_X11_ends_70, E_X11_ends_71, E_X11_ends_74, E_X11_ends_75, E_X11_ends_78, hw, b1, gb_0, List.map_nil, List.map_cons, List.sum_cons, List.sum_nil, gcat_i, gcat_r, gcat_l, Nat.reduceAdd, Nat.reduceLeDiff, Nat.zero_le, Option.toList, List.cons_append, List.nil_append, gnk_i, gnk_r, gnk_n, gi_1, Nat.reduceLT, if_true, if_false]
    exact hq s cT_refl
  | true =>
    rw [b1, if_neg (by decide)] at hq
    simp only [E_X11_ends_0, E_X11_ends_1, E_X11_ends_2, E_X11_ends_5, E_X11_ends_8, E_X11_ends_9, E_X11_ends_10, E_X11_ends_11, E_X11_ends_14, E_X11_ends_15, E_X11_ends_18, E_X11_ends_21, E_X11_ends_22, E_X11_ends_24, E_X11_ends_25, E_X11_ends_28, E_X11_ends_31, E_X11_ends_34, E_X11_ends_35, E_X11_ends_36, E_X11_ends_39, E_X11_ends_42, E_X11_ends_43, E_X11_ends_44, E_X11_ends_45, E_X11_ends_48, E_X11_ends_51, E_X11_ends_52, E_X11_ends_53, E_X11_ends_56, E_X11_ends_59, E_X11_ends_62, E_X11_ends_63, E_X11_ends_66, E_X11_ends_67, E_X11_ends_70, E_X11_ends_71, E_X11_ends_74, E_X11_ends_75, E_X11_ends_78, rk_0, rc_101, rg_0_0, rg_0_1, hw, b1, gb_1, g1_0, List.map_nil, List.map_cons, List.sum_cons, List.sum_nil, gcat_i, gcat_r, gcat_l, Nat.reduceAdd, Nat.reduceLeDiff, Nat.zero_le, Option.toList, List.cons_append, List.nil_append, gnk_i, gnk_r, gnk_n, gi_1, Nat.reduceLT, if_true, if_false]
    refine c_copy hR hk (fun s1 hT1 hR1 hR1' => ?_)
    simp only [E_X11_ends_0, E_X11_ends_1, E_X11_ends_2, E_X11_ends_5, E_X11_ends_8, E_X11_ends_9, E_X11_ends_10, E_X11_ends_11, E_X11_ends_14, E_X11_ends_15, E_X11_ends_18, E_X11_ends_21, E_X11_ends_22, E_X11_ends_24, E_X11_ends_25, E_X11_ends_28, E_X11_ends_31, E_X11_ends_34, E_X11_ends_35, E_X11_ends_36, E_X11_ends_39, E_X11_ends_42, E_X11_ends_43, E_X11_ends_44, E_X11_ends_45, E_X11_ends_48, E_X11_ends_51, E_X11_ends_52, E_X11_ends_53, E_X11_ends_56, E_X11_ends_59, E_X11_ends_62, E_X11_ends_63, E_X11_ends_66, E_X11_ends_67, E_X11_ends_70, E_X11_ends_71, E_X11_ends_74, E_X11_ends_75, E_X11_ends_78, List.map_nil, List.map_cons, List.sum_cons, List.sum_nil, gcat_i, gcat_r, gcat_l, Nat.reduceAdd, Nat.reduceLeDiff, Nat.zero_le, Option.toList, List.cons_append, List.nil_append, gnk_i, gnk_r, gnk_n, gi_1, Nat.reduceLT, if_true, if_false]
    rw [← nI_0]
    refine c_plans_loop hP (s0 := s) l.length 0 s1 p (by omega) hk hk2 (by omega) hl hR1' hT1 (fun s2 q l2 eq hk3 hT2 hR2 => ?_)
    rw [List.drop_zero] at eq
    subst eq
    have hcn := fun (z : Int32) (Q : Option Value → gc_M → Prop) => gy_howMany (w := w) (d := d + 4) (z := z) (Q := Q) hR2 hk3
    by_cases x0 : x = 0
    · rw [if_pos x0] at hq
      simp only [E_X11_ends_0, E_X11_ends_1, E_X11_ends_2, E_X11_ends_5, E_X11_ends_8, E_X11_ends_9, E_X11_ends_10, E_X11_ends_11, E_X11_ends_14, E_X11_ends_15, E_X11_ends_18, E_X11_ends_21, E_X11_ends_22, E_X11_ends_24, E_X11_ends_25, E_X11_ends_28, E_X11_ends_31, E_X11_ends_34, E_X11_ends_35, E_X11_ends_36, E_X11_ends_39, E_X11_ends_42, E_X11_ends_43, E_X11_ends_44, E_X11_ends_45, E_X11_ends_48, E_X11_ends_51, E_X11_ends_52, E_X11_ends_53, E_X11_ends_56, E_X11_ends_59, E_X11_ends_62, E_X11_ends_63, E_X11_ends_66, E_X11_ends_67, E_X11_ends_70, E_X11_ends_71, E_X11_ends_74, E_X11_ends_75, E_X11_ends_78, rk_0, rc_101, rg_0_1, hcn, x0, List.map_nil, List.map_cons, List.sum_cons, List.sum_nil, gcat_i, gcat_r, gcat_l, Nat.reduceAdd, Nat.reduceLeDiff, Nat.zero_le, Option.toList, List.cons_append, List.nil_append, gnk_i, gnk_r, gnk_n, gi_1, Nat.reduceLT, if_true, if_false]
      exact hq s2 hT2
    · rw [if_neg x0] at hq
      simp only [E_X11_ends_0, E_X11_ends_1, E_X11_ends_2, E_X11_ends_5, E_X11_ends_8, E_X11_ends_9, E_X11_ends_10, E_X11_ends_11, E_X11_ends_14, E_X11_ends_15, E_X11_ends_18, E_X11_ends_21, E_X11_ends_22, E_X11_ends_24, E_X11_ends_25, E_X11_ends_28, E_X11_ends_31, E_X11_ends_34, E_X11_ends_35, E_X11_ends_36, E_X11_ends_39, E_X11_ends_42, E_X11_ends_43, E_X11_ends_44, E_X11_ends_45, E_X11_ends_48, E_X11_ends_51, E_X11_ends_52, E_X11_ends_53, E_X11_ends_56, E_X11_ends_59, E_X11_ends_62, E_X11_ends_63, E_X11_ends_66, E_X11_ends_67, E_X11_ends_70, E_X11_ends_71, E_X11_ends_74, E_X11_ends_75, E_X11_ends_78, rk_0, rc_101, rg_0_1, hcn, x0, List.map_nil, List.map_cons, List.sum_cons, List.sum_nil, gcat_i, gcat_r, gcat_l, Nat.reduceAdd, Nat.reduceLeDiff, Nat.zero_le, Option.toList, List.cons_append, List.nil_append, gnk_i, gnk_r, gnk_n, gi_1, Nat.reduceLT, if_true, if_false]
      exact hq s2 hT2
end
