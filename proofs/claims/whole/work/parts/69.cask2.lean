/-! what is asked, in the trial: crew, best -/
theorem gA_cut_id {u : Nat} : ∀ {m t : Nat} {p : gA}, (∀ v, t ≤ v → v < t + m → p.2.1 14 v = 0 → p.2.1 13 v ≠ -1 → u / 2 ^ (p.2.1 13 v).toNatClampNeg % 2 ≠ 0) → gA_cut u m t p = p
  | 0, _, _, _ => rfl
  | m + 1, t, p, h => by
    unfold gA_cut
    rw [if_neg (fun e => h t (Nat.le_refl _) (by omega) e.1 e.2.1 e.2.2)]
    exact gA_cut_id (fun v h1 h2 => h v (by omega) (by omega))
theorem all_bit {n c : Nat} (hc : c < n) (hn : n ≤ 6) : (2 ^ n - 1) / 2 ^ c % 2 = 1 := by
  have h : ∀ n, n ≤ 6 → ∀ c, c < n → (2 ^ n - 1) / 2 ^ c % 2 = 1 := by decide +kernel
  exact h n hn c hc
theorem gpc_6 : ∀ u, u < 64 → gpc u ≤ 6 := by decide +kernel
section
variable {w : Nat × (Nat → Int32)} {d a f m k : Nat} {s : gm_S} {p : gA} {Q : Option Value → gc_M → Prop} {x y n : Int32}
theorem c_cut_loop {s0 : gm_S} {u : Nat} (hu : u < 256) (hk : gA_ok p) (h3 : gA_k3 p) : ∀ (j t : Nat) (s : gm_S) (p' : gA) (l4 l5 : Option Value), t + j = p.1.2.2 → cT s0 s → gR s 83 f m p → gR s 101 f m p' → p'.1 = p.1 → (∀ v, t ≤ v → p'.2.1 13 v = p.2.1 13 v ∧ p'.2.1 14 v = p.2.1 14 v) → (∀ s' l3' l4' l5', cT s0 s' → gR s' 101 f m (gA_cut u j t p') → gc_X w (d + 5) 105 91 [some (.ref 0), some (.int (nI u)), some (.int (nI k)), l3', l4', l5'] [] (gm_m s') Q) → gc_X w (d + 5) 105 13 [some (.ref 0), some (.int (nI u)), some (.int (nI k)), some (.int (nI t)), l4, l5] [] (gm_m s) Q := by
  intro j
  have k6 := hk.1
  have k8 := hk.2.1
  induction j with
  | zero =>
    intro t s p' l4 l5 ht hT hR hR' hn hv hq
    have h9 : s.1 83 9 = nI p.1.2.2 := hR.2.2.2.2.2.2.1
    have e : p.1.2.2 = t := by omega
    rw [e] at h9
    rw [E_X11_laidWith_13]
    simp only [E_X11_laidWith_0, E_X11_laidWith_1, E_X11_laidWith_4, E_X11_laidWith_5, E_X11_laidWith_8, E_X11_laidWith_11, E_X11_laidWith_12, E_X11_laidWith_14, E_X11_laidWith_15, E_X11_laidWith_18, E_X11_laidWith_21, E_X11_laidWith_24, E_X11_laidWith_25, E_X11_laidWith_28, E_X11_laidWith_31, E_X11_laidWith_32, E_X11_laidWith_33, E_X11_laidWith_35, E_X11_laidWith_37, E_X11_laidWith_38, E_X11_laidWith_41, E_X11_laidWith_42, E_X11_laidWith_44, E_X11_laidWith_45, E_X11_laidWith_46, E_X11_laidWith_47, E_X11_laidWith_48, E_X11_laidWith_51, E_X11_laidWith_52, E_X11_laidWith_55, E_X11_laidWith_56, E_X11_laidWith_58, E_X11_laidWith_59, E_X11_laidWith_62, E_X11_laidWith_63, E_X11_laidWith_64, E_X11_laidWith_67, E_X11_laidWith_70, E_X11_laidWith_72, E_X11_laidWith_75, E_X11_laidWith_76, E_X11_laidWith_79, E_X11_laidWith_82, E_X11_laidWith_83, E_X11_laidWith_84, E_X11_laidWith_85, E_X11_laidWith_88, E_X11_laidWith_92, E_X11_laidWith_95, E_X11_laidWith_96, E_X11_laidWith_99, E_X11_laidWith_100, E_X11_laidWith_103, E_X11_laidWith_104, E_X11_laidWith_107, rk_0, rk_83, rg_0_0, rg_83_9, h9, nI_le (Nat.le_refl t) (by omega : t < 2 ^ 31), gnk_i, gnk_r, gnk_n, gi_1, Nat.reduceLT, if_true, if_false]
    exact hq s _ _ _ hT hR'
  | succ j ih =>
    intro t s p' l4 l5 ht hT hR hR' hn hv hq
    have h9 : s.1 83 9 = nI p.1.2.2 := hR.2.2.2.2.2.2.1
    have htl : t < p.1.2.2 := by omega
    have i3 : vp_in (nI t) 8 := vp_in_nI (by omega) (by omega)
    have i4 : (nI t).toNatClampNeg = t := nI_clamp (by omega)
    have hge : ¬ nI p.1.2.2 ≤ nI t := nI_ge (by omega) (by omega)
    have a13 : s.1 96 t = p.2.1 13 t := hR.2.2.2.2.2.2.2.1 13 t (Or.inr (Or.inr (Or.inr ⟨by omega, by omega, htl⟩)))
    have hin := fun (z : Int32) (Q : Option Value → gc_M → Prop) => gy_isIn (w := w) (d := d + 3) (x := nI t) (z := z) (Q := Q) hR hk
    simp only [gA_isIn_t htl hk] at hin
    obtain ⟨v13, v14⟩ := hv t (Nat.le_refl _)
    have hi := ih (t + 1)
    rw [nI_succ] at hi
    rw [gA_cut, v13, v14] at hq
    rw [E_X11_laidWith_13]
    rcases h3 t htl with e | ⟨c, hc, e⟩
    · rw [if_neg (fun q => q.2.1 e)] at hq
      rw [e] at a13
      by_cases h0 : p.2.1 14 t = 0
      · simp only [E_X11_laidWith_0, E_X11_laidWith_1, E_X11_laidWith_4, E_X11_laidWith_5, E_X11_laidWith_8, E_X11_laidWith_11, E_X11_laidWith_12, E_X11_laidWith_14, E_X11_laidWith_15, E_X11_laidWith_18, E_X11_laidWith_21, E_X11_laidWith_24, E_X11_laidWith_25, E_X11_laidWith_28, E_X11_laidWith_31, E_X11_laidWith_32, E_X11_laidWith_33, E_X11_laidWith_35, E_X11_laidWith_37, E_X11_laidWith_38, E_X11_laidWith_41, E_X11_laidWith_42, E_X11_laidWith_44, E_X11_laidWith_45, E_X11_laidWith_46, E_X11_laidWith_47, E_X11_laidWith_48, E_X11_laidWith_51, E_X11_laidWith_52, E_X11_laidWith_55, E_X11_laidWith_56, E_X11_laidWith_58, E_X11_laidWith_59, E_X11_laidWith_62, E_X11_laidWith_63, E_X11_laidWith_64, E_X11_laidWith_67, E_X11_laidWith_70, E_X11_laidWith_72, E_X11_laidWith_75, E_X11_laidWith_76, E_X11_laidWith_79, E_X11_laidWith_82, E_X11_laidWith_83, E_X11_laidWith_84, E_X11_laidWith_85, E_X11_laidWith_88, E_X11_laidWith_92, E_X11_laidWith_95, E_X11_laidWith_96, E_X11_laidWith_99, E_X11_laidWith_100, E_X11_laidWith_103, E_X11_laidWith_104, E_X11_laidWith_107, rk_0, rk_83, rc_83, rg_0_0, rg_83_9, rg_83_11, ra_96, rv_96, h9, hge, i3, i4, a13, hin, h0, decide_true, gb_1, g1_0, List.map_nil, List.map_cons, List.sum_cons, List.sum_nil, gcat_i, gcat_r, gcat_l, Nat.reduceAdd, Nat.reduceLeDiff, Nat.zero_le, Option.toList, List.cons_append, List.nil_append, gnk_i, gnk_r, gnk_n, gi_1, Nat.reduceLT, if_true, if_false]
        exact hi s p' _ _ (by omega) hT hR hR' hn (fun v hv' => hv v (by omega)) hq
      · simp only [E_X11_laidWith_0, E_X11_laidWith_1, E_X11_laidWith_4, E_X11_laidWith_5, E_X11_laidWith_8, E_X11_laidWith_11, E_X11_laidWith_12, E_X11_laidWith_14, E_X11_laidWith_15, E_X11_laidWith_18, E_X11_laidWith_21, E_X11_laidWith_24, E_X11_laidWith_25, E_X11_laidWith_28, E_X11_laidWith_31, E_X11_laidWith_32, E_X11_laidWith_33, E_X11_laidWith_35, E_X11_laidWith_37, E_X11_laidWith_38, E_X11_laidWith_41, E_X11_laidWith_42, E_X11_laidWith_44, E_X11_laidWith_45, E_X11_laidWith_46, E_X11_laidWith_47, E_X11_laidWith_48, E_X11_laidWith_51, E_X11_laidWith_52, E_X11_laidWith_55, E_X11_laidWith_56, E_X11_laidWith_58, E_X11_laidWith_59, E_X11_laidWith_62, E_X11_laidWith_63, E_X11_laidWith_64, E_X11_laidWith_67, E_X11_laidWith_70, E_X11_laidWith_72, E_X11_laidWith_75, E_X11_laidWith_76, E_X11_laidWith_79, E_X11_laidWith_82, E_X11_laidWith_83, E_X11_laidWith_84, E_X11_laidWith_85, E_X11_laidWith_88, E_X11_laidWith_92, E_X11_laidWith_95, E_X11_laidWith_96, E_X11_laidWith_99, E_X11_laidWith_100, E_X11_laidWith_103, E_X11_laidWith_104, E_X11_laidWith_107, rk_0, rk_83, rc_83, rg_0_0, rg_83_9, rg_83_11, ra_96, rv_96, h9, hge, i3, i4, a13, hin, h0, decide_false, gb_0, List.map_nil, List.map_cons, List.sum_cons, List.sum_nil, gcat_i, gcat_r, gcat_l, Nat.reduceAdd, Nat.reduceLeDiff, Nat.zero_le, Option.toList, List.cons_append, List.nil_append, gnk_i, gnk_r, gnk_n, gi_1, Nat.reduceLT, if_true, if_false]
        exact hi s p' _ _ (by omega) hT hR hR' hn (fun v hv' => hv v (by omega)) hq
    · rw [e] at a13
      have hm1 : p.2.1 13 t ≠ -1 := by rw [e]; exact nI_nm1 (by omega)
      have hm2 : ¬ nI c = -1 := nI_nm1 (by omega)
      have ec : (p.2.1 13 t).toNatClampNeg = c := by rw [e]; exact nI_clamp (by omega)
      rw [ec] at hq
      have hd : u / 2 ^ c ≤ u := Nat.div_le_self _ _
      have e1 : nI u >>> (nI c &&& 31) = nI (u / 2 ^ c) := pk_shrN (by omega) _ c (s_l c (by omega))
      have e2 : nI (u / 2 ^ c) &&& 1 = nI (u / 2 ^ c % 2) := pk_andN (by omega) (m := 1) 1 (by decide)
      by_cases hb : u / 2 ^ c % 2 = 0
      · rw [hb, nI_0] at e2
        have e01 : ((0 : Int32) = 1) = False := eq_false (by decide)
        by_cases h0 : p.2.1 14 t = 0
        · rw [if_pos ⟨h0, hm1, hb⟩] at hq
          simp only [E_X11_laidWith_0, E_X11_laidWith_1, E_X11_laidWith_4, E_X11_laidWith_5, E_X11_laidWith_8, E_X11_laidWith_11, E_X11_laidWith_12, E_X11_laidWith_14, E_X11_laidWith_15, E_X11_laidWith_18, E_X11_laidWith_21, E_X11_laidWith_24, E_X11_laidWith_25, E_X11_laidWith_28, E_X11_laidWith_31, E_X11_laidWith_32, E_X11_laidWith_33, E_X11_laidWith_35, E_X11_laidWith_37, E_X11_laidWith_38, E_X11_laidWith_41, E_X11_laidWith_42, E_X11_laidWith_44, E_X11_laidWith_45, E_X11_laidWith_46, E_X11_laidWith_47, E_X11_laidWith_48, E_X11_laidWith_51, E_X11_laidWith_52, E_X11_laidWith_55, E_X11_laidWith_56, E_X11_laidWith_58, E_X11_laidWith_59, E_X11_laidWith_62, E_X11_laidWith_63, E_X11_laidWith_64, E_X11_laidWith_67, E_X11_laidWith_70, E_X11_laidWith_72, E_X11_laidWith_75, E_X11_laidWith_76, E_X11_laidWith_79, E_X11_laidWith_82, E_X11_laidWith_83, E_X11_laidWith_84, E_X11_laidWith_85, E_X11_laidWith_88, E_X11_laidWith_92, E_X11_laidWith_95, E_X11_laidWith_96, E_X11_laidWith_99, E_X11_laidWith_100, E_X11_laidWith_103, E_X11_laidWith_104, E_X11_laidWith_107, rk_0, rk_83, rk_101, rc_83, rg_0_0, rg_0_1, rg_83_9, rg_83_11, rg_101_11, ra_96, rv_96, ra_114, rs_114, h9, hge, i3, i4, a13, hm2, e1, e2, e01, hin, h0, decide_true, gb_1, g1_0, List.map_nil, List.map_cons, List.sum_cons, List.sum_nil, gcat_i, gcat_r, gcat_l, Nat.reduceAdd, Nat.reduceLeDiff, Nat.zero_le, Option.toList, List.cons_append, List.nil_append, gnk_i, gnk_r, gnk_n, gi_1, Nat.reduceLT, if_true, if_false]
          have hT1 : cT s (gm_si s 114 t (-1)) := cT_si cT_refl (by omega)
          refine hi _ (gA_set p' 13 t (-1)) _ _ (by omega) (cT_trans hT hT1) (gR_T hR k6 hT1) (gR_set (o := 13) hR' (by decide) (by decide)) hn (fun v hv' => ?_) hq
          rw [gA_set_at, if_neg (fun q => by omega), gA_set_at, if_neg (fun q => by omega)]
          exact hv v (by omega)
        · rw [if_neg (fun q => h0 q.1)] at hq
          simp only [E_X11_laidWith_0, E_X11_laidWith_1, E_X11_laidWith_4, E_X11_laidWith_5, E_X11_laidWith_8, E_X11_laidWith_11, E_X11_laidWith_12, E_X11_laidWith_14, E_X11_laidWith_15, E_X11_laidWith_18, E_X11_laidWith_21, E_X11_laidWith_24, E_X11_laidWith_25, E_X11_laidWith_28, E_X11_laidWith_31, E_X11_laidWith_32, E_X11_laidWith_33, E_X11_laidWith_35, E_X11_laidWith_37, E_X11_laidWith_38, E_X11_laidWith_41, E_X11_laidWith_42, E_X11_laidWith_44, E_X11_laidWith_45, E_X11_laidWith_46, E_X11_laidWith_47, E_X11_laidWith_48, E_X11_laidWith_51, E_X11_laidWith_52, E_X11_laidWith_55, E_X11_laidWith_56, E_X11_laidWith_58, E_X11_laidWith_59, E_X11_laidWith_62, E_X11_laidWith_63, E_X11_laidWith_64, E_X11_laidWith_67, E_X11_laidWith_70, E_X11_laidWith_72, E_X11_laidWith_75, E_X11_laidWith_76, E_X11_laidWith_79, E_X11_laidWith_82, E_X11_laidWith_83, E_X11_laidWith_84, E_X11_laidWith_85, E_X11_laidWith_88, E_X11_laidWith_92, E_X11_laidWith_95, E_X11_laidWith_96, E_X11_laidWith_99, E_X11_laidWith_100, E_X11_laidWith_103, E_X11_laidWith_104, E_X11_laidWith_107, rk_0, rk_83, rc_83, rg_0_0, rg_83_9, rg_83_11, ra_96, rv_96, h9, hge, i3, i4, a13, hm2, e1, e2, e01, hin, h0, decide_false, gb_0, List.map_nil, List.map_cons, List.sum_cons, List.sum_nil, gcat_i, gcat_r, gcat_l, Nat.reduceAdd, Nat.reduceLeDiff, Nat.zero_le, Option.toList, List.cons_append, List.nil_append, gnk_i, gnk_r, gnk_n, gi_1, Nat.reduceLT, if_true, if_false]
          exact hi s p' _ _ (by omega) hT hR hR' hn (fun v hv' => hv v (by omega)) hq
      · rw [if_neg (fun q => hb q.2.2)] at hq
        have hb1 : u / 2 ^ c % 2 = 1 := by omega
        rw [hb1, show nI 1 = 1 from rfl] at e2
        by_cases h0 : p.2.1 14 t = 0
        · simp only [E_X11_laidWith_0, E_X11_laidWith_1, E_X11_laidWith_4, E_X11_laidWith_5, E_X11_laidWith_8, E_X11_laidWith_11, E_X11_laidWith_12, E_X11_laidWith_14, E_X11_laidWith_15, E_X11_laidWith_18, E_X11_laidWith_21, E_X11_laidWith_24, E_X11_laidWith_25, E_X11_laidWith_28, E_X11_laidWith_31, E_X11_laidWith_32, E_X11_laidWith_33, E_X11_laidWith_35, E_X11_laidWith_37, E_X11_laidWith_38, E_X11_laidWith_41, E_X11_laidWith_42, E_X11_laidWith_44, E_X11_laidWith_45, E_X11_laidWith_46, E_X11_laidWith_47, E_X11_laidWith_48, E_X11_laidWith_51, E_X11_laidWith_52, E_X11_laidWith_55, E_X11_laidWith_56, E_X11_laidWith_58, E_X11_laidWith_59, E_X11_laidWith_62, E_X11_laidWith_63, E_X11_laidWith_64, E_X11_laidWith_67, E_X11_laidWith_70, E_X11_laidWith_72, E_X11_laidWith_75, E_X11_laidWith_76, E_X11_laidWith_79, E_X11_laidWith_82, E_X11_laidWith_83, E_X11_laidWith_84, E_X11_laidWith_85, E_X11_laidWith_88, E_X11_laidWith_92, E_X11_laidWith_95, E_X11_laidWith_96, E_X11_laidWith_99, E_X11_laidWith_100, E_X11_laidWith_103, E_X11_laidWith_104, E_X11_laidWith_107, rk_0, rk_83, rc_83, rg_0_0, rg_83_9, rg_83_11, ra_96, rv_96, h9, hge, i3, i4, a13, hm2, e1, e2, hin, h0, decide_true, gb_1, g1_0, List.map_nil, List.map_cons, List.sum_cons, List.sum_nil, gcat_i, gcat_r, gcat_l, Nat.reduceAdd, Nat.reduceLeDiff, Nat.zero_le, Option.toList, List.cons_append, List.nil_append, gnk_i, gnk_r, gnk_n, gi_1, Nat.reduceLT, if_true, if_false]
          exact hi s p' _ _ (by omega) hT hR hR' hn (fun v hv' => hv v (by omega)) hq
        · simp only [E_X11_laidWith_0, E_X11_laidWith_1, E_X11_laidWith_4, E_X11_laidWith_5, E_X11_laidWith_8, E_X11_laidWith_11, E_X11_laidWith_12, E_X11_laidWith_14, E_X11_laidWith_15, E_X11_laidWith_18, E_X11_laidWith_21, E_X11_laidWith_24, E_X11_laidWith_25, E_X11_laidWith_28, E_X11_laidWith_31, E_X11_laidWith_32, E_X11_laidWith_33, E_X11_laidWith_35, E_X11_laidWith_37, E_X11_laidWith_38, E_X11_laidWith_41, E_X11_laidWith_42, E_X11_laidWith_44, E_X11_laidWith_45, E_X11_laidWith_46, E_X11_laidWith_47, E_X11_laidWith_48, E_X11_laidWith_51, E_X11_laidWith_52, E_X11_laidWith_55, E_X11_laidWith_56, E_X11_laidWith_58, E_X11_laidWith_59, E_X11_laidWith_62, E_X11_laidWith_63, E_X11_laidWith_64, E_X11_laidWith_67, E_X11_laidWith_70, E_X11_laidWith_72, E_X11_laidWith_75, E_X11_laidWith_76, E_X11_laidWith_79, E_X11_laidWith_82, E_X11_laidWith_83, E_X11_laidWith_84, E_X11_laidWith_85, E_X11_laidWith_88, E_X11_laidWith_92, E_X11_laidWith_95, E_X11_laidWith_96, E_X11_laidWith_99, E_X11_laidWith_100, E_X11_laidWith_103, E_X11_laidWith_104, E_X11_laidWith_107, rk_0, rk_83, rc_83, rg_0_0, rg_83_9, rg_83_11, ra_96, rv_96, h9, hge, i3, i4, a13, hm2, e1, e2, hin, h0, decide_false, gb_0, List.map_nil, List.map_cons, List.sum_cons, List.sum_nil, gcat_i, gcat_r, gcat_l, Nat.reduceAdd, Nat.reduceLeDiff, Nat.zero_le, Option.toList, List.cons_append, List.nil_append, gnk_i, gnk_r, gnk_n, gi_1, Nat.reduceLT, if_true, if_false]
          exact hi s p' _ _ (by omega) hT hR hR' hn (fun v hv' => hv v (by omega)) hq
theorem c_laidWith {u : Nat} (hu : u < 256) (hR : gR s 83 f m p) (hk : gA_ok p) (h3 : gA_k3 p) (hh : p.1.1 ≤ 9999) (hk60 : k ≤ 60) (hq : ∀ s', cT s s' → Q (some (.int (a_laid p u k))) (gm_m s')) : gc_X w (d + 5) 105 0 [some (.ref 0), some (.int (nI u)), some (.int (nI k)), none, none, none] [] (gm_m s) Q := by
  simp only [E_X11_laidWith_0, E_X11_laidWith_1, E_X11_laidWith_4, E_X11_laidWith_5, E_X11_laidWith_8, E_X11_laidWith_11, E_X11_laidWith_12, E_X11_laidWith_14, E_X11_laidWith_15, E_X11_laidWith_18, E_X11_laidWith_21, E_X11_laidWith_24, E_X11_laidWith_25, E_X11_laidWith_28, E_X11_laidWith_31, E_X11_laidWith_32, E_X11_laidWith_33, E_X11_laidWith_35, E_X11_laidWith_37, E_X11_laidWith_38, E_X11_laidWith_41, E_X11_laidWith_42, E_X11_laidWith_44, E_X11_laidWith_45, E_X11_laidWith_46, E_X11_laidWith_47, E_X11_laidWith_48, E_X11_laidWith_51, E_X11_laidWith_52, E_X11_laidWith_55, E_X11_laidWith_56, E_X11_laidWith_58, E_X11_laidWith_59, E_X11_laidWith_62, E_X11_laidWith_63, E_X11_laidWith_64, E_X11_laidWith_67, E_X11_laidWith_70, E_X11_laidWith_72, E_X11_laidWith_75, E_X11_laidWith_76, E_X11_laidWith_79, E_X11_laidWith_82, E_X11_laidWith_83, E_X11_laidWith_84, E_X11_laidWith_85, E_X11_laidWith_88, E_X11_laidWith_91, E_X11_laidWith_92, E_X11_laidWith_95, E_X11_laidWith_96, E_X11_laidWith_99, E_X11_laidWith_100, E_X11_laidWith_103, E_X11_laidWith_104, E_X11_laidWith_107, rk_0, rc_101, rg_0_0, rg_0_1, List.map_nil, List.map_cons, List.sum_cons, List.sum_nil, gcat_i, gcat_r, gcat_l, Nat.reduceAdd, Nat.reduceLeDiff, Nat.zero_le, Option.toList, List.cons_append, List.nil_append, gnk_i, gnk_r, gnk_n, gi_1, Nat.reduceLT, if_true, if_false]
  refine c_copy hR hk (fun s1 hT1 hR1 hR1' => ?_)
  simp only [E_X11_laidWith_0, E_X11_laidWith_1, E_X11_laidWith_4, E_X11_laidWith_5, E_X11_laidWith_8, E_X11_laidWith_11, E_X11_laidWith_12, E_X11_laidWith_14, E_X11_laidWith_15, E_X11_laidWith_18, E_X11_laidWith_21, E_X11_laidWith_24, E_X11_laidWith_25, E_X11_laidWith_28, E_X11_laidWith_31, E_X11_laidWith_32, E_X11_laidWith_33, E_X11_laidWith_35, E_X11_laidWith_37, E_X11_laidWith_38, E_X11_laidWith_41, E_X11_laidWith_42, E_X11_laidWith_44, E_X11_laidWith_45, E_X11_laidWith_46, E_X11_laidWith_47, E_X11_laidWith_48, E_X11_laidWith_51, E_X11_laidWith_52, E_X11_laidWith_55, E_X11_laidWith_56, E_X11_laidWith_58, E_X11_laidWith_59, E_X11_laidWith_62, E_X11_laidWith_63, E_X11_laidWith_64, E_X11_laidWith_67, E_X11_laidWith_70, E_X11_laidWith_72, E_X11_laidWith_75, E_X11_laidWith_76, E_X11_laidWith_79, E_X11_laidWith_82, E_X11_laidWith_83, E_X11_laidWith_84, E_X11_laidWith_85, E_X11_laidWith_88, E_X11_laidWith_91, E_X11_laidWith_92, E_X11_laidWith_95, E_X11_laidWith_96, E_X11_laidWith_99, E_X11_laidWith_100, E_X11_laidWith_103, E_X11_laidWith_104, E_X11_laidWith_107, List.map_nil, List.map_cons, List.sum_cons, List.sum_nil, gcat_i, gcat_r, gcat_l, Nat.reduceAdd, Nat.reduceLeDiff, Nat.zero_le, Option.toList, List.cons_append, List.nil_append, gnk_i, gnk_r, gnk_n, gi_1, Nat.reduceLT, if_true, if_false]
  rw [← nI_0]
  refine c_cut_loop hu hk h3 p.1.2.2 0 s1 p _ _ (by omega) hT1 hR1 hR1' rfl (fun v _ => ⟨rfl, rfl⟩) (fun s2 l3 l4 l5 hT2 hR2 => ?_)
  have gn : (gA_cut u p.1.2.2 0 p).1 = p.1 := gA_cut_n
  have hko := gA_cut_ok (u := u) (m := p.1.2.2) (t := 0) hk
  simp only [E_X11_laidWith_0, E_X11_laidWith_1, E_X11_laidWith_4, E_X11_laidWith_5, E_X11_laidWith_8, E_X11_laidWith_11, E_X11_laidWith_12, E_X11_laidWith_14, E_X11_laidWith_15, E_X11_laidWith_18, E_X11_laidWith_21, E_X11_laidWith_24, E_X11_laidWith_25, E_X11_laidWith_28, E_X11_laidWith_31, E_X11_laidWith_32, E_X11_laidWith_33, E_X11_laidWith_35, E_X11_laidWith_37, E_X11_laidWith_38, E_X11_laidWith_41, E_X11_laidWith_42, E_X11_laidWith_44, E_X11_laidWith_45, E_X11_laidWith_46, E_X11_laidWith_47, E_X11_laidWith_48, E_X11_laidWith_51, E_X11_laidWith_52, E_X11_laidWith_55, E_X11_laidWith_56, E_X11_laidWith_58, E_X11_laidWith_59, E_X11_laidWith_62, E_X11_laidWith_63, E_X11_laidWith_64, E_X11_laidWith_67, E_X11_laidWith_70, E_X11_laidWith_72, E_X11_laidWith_75, E_X11_laidWith_76, E_X11_laidWith_79, E_X11_laidWith_82, E_X11_laidWith_83, E_X11_laidWith_84, E_X11_laidWith_85, E_X11_laidWith_88, E_X11_laidWith_91, E_X11_laidWith_92, E_X11_laidWith_95, E_X11_laidWith_96, E_X11_laidWith_99, E_X11_laidWith_100, E_X11_laidWith_103, E_X11_laidWith_104, E_X11_laidWith_107, rk_0, rc_101, rg_0_1, List.map_nil, List.map_cons, List.sum_cons, List.sum_nil, gcat_i, gcat_r, gcat_l, Nat.reduceAdd, Nat.reduceLeDiff, Nat.zero_le, Option.toList, List.cons_append, List.nil_append, gnk_i, gnk_r, gnk_n, gi_1, Nat.reduceLT, if_true, if_false]
  refine gy_go hR2 hko (by rw [gn]; omega) (fun s3 hF3 hR3 => ?_)
  have gk : gA_ok (gA_go k (gA_cut u p.1.2.2 0 p)) := gA_go_ok hko (by rw [gn]; omega)
  have hcn := fun (z : Int32) (Q : Option Value → gc_M → Prop) => gy_howMany (w := w) (d := d + 3) (z := z) (Q := Q) hR3 gk
  simp only [E_X11_laidWith_0, E_X11_laidWith_1, E_X11_laidWith_4, E_X11_laidWith_5, E_X11_laidWith_8, E_X11_laidWith_11, E_X11_laidWith_12, E_X11_laidWith_14, E_X11_laidWith_15, E_X11_laidWith_18, E_X11_laidWith_21, E_X11_laidWith_24, E_X11_laidWith_25, E_X11_laidWith_28, E_X11_laidWith_31, E_X11_laidWith_32, E_X11_laidWith_33, E_X11_laidWith_35, E_X11_laidWith_37, E_X11_laidWith_38, E_X11_laidWith_41, E_X11_laidWith_42, E_X11_laidWith_44, E_X11_laidWith_45, E_X11_laidWith_46, E_X11_laidWith_47, E_X11_laidWith_48, E_X11_laidWith_51, E_X11_laidWith_52, E_X11_laidWith_55, E_X11_laidWith_56, E_X11_laidWith_58, E_X11_laidWith_59, E_X11_laidWith_62, E_X11_laidWith_63, E_X11_laidWith_64, E_X11_laidWith_67, E_X11_laidWith_70, E_X11_laidWith_72, E_X11_laidWith_75, E_X11_laidWith_76, E_X11_laidWith_79, E_X11_laidWith_82, E_X11_laidWith_83, E_X11_laidWith_84, E_X11_laidWith_85, E_X11_laidWith_88, E_X11_laidWith_91, E_X11_laidWith_92, E_X11_laidWith_95, E_X11_laidWith_96, E_X11_laidWith_99, E_X11_laidWith_100, E_X11_laidWith_103, E_X11_laidWith_104, E_X11_laidWith_107, rk_0, rc_101, rg_0_1, hcn, List.map_nil, List.map_cons, List.sum_cons, List.sum_nil, gcat_i, gcat_r, gcat_l, Nat.reduceAdd, Nat.reduceLeDiff, Nat.zero_le, Option.toList, List.cons_append, List.nil_append, gnk_i, gnk_r, gnk_n, gi_1, Nat.reduceLT, if_true, if_false]
  exact hq s3 (cT_trans hT2 (cT_F hF3))
def gpcO (f : Option Nat) : Nat := match f with
  | none => 7
  | some g => gpc g
theorem c_crew_loop {s0 : gm_S} (hk : gA_ok p) (h3 : gA_k3 p) (hh : p.1.1 ≤ 9999) (hk60 : k ≤ 60) (hq : ∀ s', cT s0 s' → Q (some (.int (a_crew p k))) (gm_m s')) : ∀ (j u : Nat) (g : Option Nat) (s : gm_S) (l7 : Option Value), u + j = 2 ^ p.1.2.1 → (∀ v, g = some v → v < 64) → cT s0 s → gR s 83 f m p → gA_cw p k j u g = gA_cw p k (2 ^ p.1.2.1) 0 none → gc_X w (d + 6) 104 30 [some (.ref 0), some (.int (nI k)), some (.int (nI (2 ^ p.1.2.1 - 1))), some (.int (gA_cnt (gA_go k p) 2)), some (.int (gp_i g (-5))), some (.int (nI (gpcO g))), some (.int (nI u)), l7] [] (gm_m s) Q := by
  intro j
  have k6 := hk.1
  have hp : 2 ^ p.1.2.1 ≤ 2 ^ 6 := Nat.pow_le_pow_right (by omega) k6
  have hp0 : 0 < 2 ^ p.1.2.1 := Nat.pow_pos (by omega)
  induction j with
  | zero =>
    intro u g s l7 hu hg hT hR he
    have e : nI (2 ^ p.1.2.1 - 1) < nI u := nI_lt (by omega) (by omega)
    rw [E_X11_leastCrew_30]
    simp only [E_X11_leastCrew_0, E_X11_leastCrew_1, E_X11_leastCrew_2, E_X11_leastCrew_5, E_X11_leastCrew_8, E_X11_leastCrew_9, E_X11_leastCrew_10, E_X11_leastCrew_11, E_X11_leastCrew_12, E_X11_leastCrew_13, E_X11_leastCrew_14, E_X11_leastCrew_15, E_X11_leastCrew_18, E_X11_leastCrew_19, E_X11_leastCrew_21, E_X11_leastCrew_23, E_X11_leastCrew_25, E_X11_leastCrew_27, E_X11_leastCrew_28, E_X11_leastCrew_32, E_X11_leastCrew_33, E_X11_leastCrew_36, E_X11_leastCrew_38, E_X11_leastCrew_41, E_X11_leastCrew_43, E_X11_leastCrew_45, E_X11_leastCrew_47, E_X11_leastCrew_50, E_X11_leastCrew_51, E_X11_leastCrew_53, E_X11_leastCrew_54, E_X11_leastCrew_57, E_X11_leastCrew_58, E_X11_leastCrew_61, E_X11_leastCrew_63, E_X11_leastCrew_65, E_X11_leastCrew_67, E_X11_leastCrew_69, E_X11_leastCrew_72, E_X11_leastCrew_75, E_X11_leastCrew_77, e, gnk_i, gnk_r, gnk_n, gi_1, Nat.reduceLT, if_true, if_false]
    have hq' := hq s hT
    unfold a_crew at hq'
    rw [← he] at hq'
    exact hq'
  | succ j ih =>
    intro u g s l7 hu hg hT hR he
    have e : ¬ nI (2 ^ p.1.2.1 - 1) < nI u := nI_nlt (by omega) (by omega)
    have hub : u < 64 := by omega
    have hbc := fun (Q : Option Value → gc_M → Prop) => j_bitCount (w := w) (d := d + 5) (s := s) (x := nI u) (Q := Q)
    rw [gpcI_eq u (by omega)] at hbc
    have hi := ih (u + 1)
    rw [nI_succ] at hi
    have g6 := gpc_6 u hub
    have gO : gpcO g < 2 ^ 31 := by
      cases g with
      | none => show 7 < 2 ^ 31; omega
      | some v =>
        have := gpc_6 v (hg v rfl)
        show gpc v < 2 ^ 31
        omega
    have hE : (∃ v, g = some v ∧ gpc v ≤ gpc u) ↔ gpcO g ≤ gpc u := by
      cases g with
      | none => exact ⟨(fun ⟨v, h, _⟩ => by cases h), (fun h => by
        have h7 : 7 ≤ gpc u := h
        omega)⟩
      | some v => exact ⟨(fun ⟨v', h, h2⟩ => by
        cases h
        exact h2), fun h => ⟨v, rfl, h⟩⟩
    rw [gA_cw] at he
    rw [E_X11_leastCrew_30]
    by_cases hle : gpcO g ≤ gpc u
    · rw [if_pos (hE.mpr hle)] at he
      have h1 : nI (gpcO g) ≤ nI (gpc u) := nI_le hle (by omega)
      simp only [E_X11_leastCrew_0, E_X11_leastCrew_1, E_X11_leastCrew_2, E_X11_leastCrew_5, E_X11_leastCrew_8, E_X11_leastCrew_9, E_X11_leastCrew_10, E_X11_leastCrew_11, E_X11_leastCrew_12, E_X11_leastCrew_13, E_X11_leastCrew_14, E_X11_leastCrew_15, E_X11_leastCrew_18, E_X11_leastCrew_19, E_X11_leastCrew_21, E_X11_leastCrew_23, E_X11_leastCrew_25, E_X11_leastCrew_27, E_X11_leastCrew_28, E_X11_leastCrew_32, E_X11_leastCrew_33, E_X11_leastCrew_36, E_X11_leastCrew_38, E_X11_leastCrew_41, E_X11_leastCrew_43, E_X11_leastCrew_45, E_X11_leastCrew_47, E_X11_leastCrew_50, E_X11_leastCrew_51, E_X11_leastCrew_53, E_X11_leastCrew_54, E_X11_leastCrew_57, E_X11_leastCrew_58, E_X11_leastCrew_61, E_X11_leastCrew_63, E_X11_leastCrew_65, E_X11_leastCrew_67, E_X11_leastCrew_69, E_X11_leastCrew_72, E_X11_leastCrew_75, E_X11_leastCrew_77, e, hbc, h1, List.map_nil, List.map_cons, List.sum_cons, List.sum_nil, gcat_i, gcat_r, gcat_l, Nat.reduceAdd, Nat.reduceLeDiff, Nat.zero_le, Option.toList, List.cons_append, List.nil_append, gnk_i, gnk_r, gnk_n, gi_1, Nat.reduceLT, if_true, if_false]
      exact hi g s _ (by omega) hg hT hR he
    · rw [if_neg (fun q => hle (hE.mp q))] at he
      have h1 : ¬ nI (gpcO g) ≤ nI (gpc u) := nI_ge (by omega) gO
      simp only [E_X11_leastCrew_0, E_X11_leastCrew_1, E_X11_leastCrew_2, E_X11_leastCrew_5, E_X11_leastCrew_8, E_X11_leastCrew_9, E_X11_leastCrew_10, E_X11_leastCrew_11, E_X11_leastCrew_12, E_X11_leastCrew_13, E_X11_leastCrew_14, E_X11_leastCrew_15, E_X11_leastCrew_18, E_X11_leastCrew_19, E_X11_leastCrew_21, E_X11_leastCrew_23, E_X11_leastCrew_25, E_X11_leastCrew_27, E_X11_leastCrew_28, E_X11_leastCrew_32, E_X11_leastCrew_33, E_X11_leastCrew_36, E_X11_leastCrew_38, E_X11_leastCrew_41, E_X11_leastCrew_43, E_X11_leastCrew_45, E_X11_leastCrew_47, E_X11_leastCrew_50, E_X11_leastCrew_51, E_X11_leastCrew_53, E_X11_leastCrew_54, E_X11_leastCrew_57, E_X11_leastCrew_58, E_X11_leastCrew_61, E_X11_leastCrew_63, E_X11_leastCrew_65, E_X11_leastCrew_67, E_X11_leastCrew_69, E_X11_leastCrew_72, E_X11_leastCrew_75, E_X11_leastCrew_77, rc_0, e, hbc, h1, List.map_nil, List.map_cons, List.sum_cons, List.sum_nil, gcat_i, gcat_r, gcat_l, Nat.reduceAdd, Nat.reduceLeDiff, Nat.zero_le, Option.toList, List.cons_append, List.nil_append, gnk_i, gnk_r, gnk_n, gi_1, Nat.reduceLT, if_true, if_false]
      refine c_laidWith (by omega) hR hk h3 hh hk60 (fun s2 hT2 => ?_)
      by_cases hL : gA_cnt (gA_go k p) 2 ≤ a_laid p u k
      · rw [if_pos hL] at he
        have hL2 : ¬ a_laid p u k < gA_cnt (gA_go k p) 2 := by
          rw [gx_le] at hL
          rw [gx_lt]
          omega
        simp only [E_X11_leastCrew_0, E_X11_leastCrew_1, E_X11_leastCrew_2, E_X11_leastCrew_5, E_X11_leastCrew_8, E_X11_leastCrew_9, E_X11_leastCrew_10, E_X11_leastCrew_11, E_X11_leastCrew_12, E_X11_leastCrew_13, E_X11_leastCrew_14, E_X11_leastCrew_15, E_X11_leastCrew_18, E_X11_leastCrew_19, E_X11_leastCrew_21, E_X11_leastCrew_23, E_X11_leastCrew_25, E_X11_leastCrew_27, E_X11_leastCrew_28, E_X11_leastCrew_32, E_X11_leastCrew_33, E_X11_leastCrew_36, E_X11_leastCrew_38, E_X11_leastCrew_41, E_X11_leastCrew_43, E_X11_leastCrew_45, E_X11_leastCrew_47, E_X11_leastCrew_50, E_X11_leastCrew_51, E_X11_leastCrew_53, E_X11_leastCrew_54, E_X11_leastCrew_57, E_X11_leastCrew_58, E_X11_leastCrew_61, E_X11_leastCrew_63, E_X11_leastCrew_65, E_X11_leastCrew_67, E_X11_leastCrew_69, E_X11_leastCrew_72, E_X11_leastCrew_75, E_X11_leastCrew_77, hL2, List.map_nil, List.map_cons, List.sum_cons, List.sum_nil, gcat_i, gcat_r, gcat_l, Nat.reduceAdd, Nat.reduceLeDiff, Nat.zero_le, Option.toList, List.cons_append, List.nil_append, gnk_i, gnk_r, gnk_n, gi_1, Nat.reduceLT, if_true, if_false]
        exact hi (some u) s2 _ (by omega) (fun v e => by cases e; omega) (cT_trans hT hT2) (gR_T hR k6 hT2) he
      · rw [if_neg hL] at he
        have hL2 : a_laid p u k < gA_cnt (gA_go k p) 2 := by
          rw [gx_le] at hL
          rw [gx_lt]
          omega
        simp only [E_X11_leastCrew_0, E_X11_leastCrew_1, E_X11_leastCrew_2, E_X11_leastCrew_5, E_X11_leastCrew_8, E_X11_leastCrew_9, E_X11_leastCrew_10, E_X11_leastCrew_11, E_X11_leastCrew_12, E_X11_leastCrew_13, E_X11_leastCrew_14, E_X11_leastCrew_15, E_X11_leastCrew_18, E_X11_leastCrew_19, E_X11_leastCrew_21, E_X11_leastCrew_23, E_X11_leastCrew_25, E_X11_leastCrew_27, E_X11_leastCrew_28, E_X11_leastCrew_32, E_X11_leastCrew_33, E_X11_leastCrew_36, E_X11_leastCrew_38, E_X11_leastCrew_41, E_X11_leastCrew_43, E_X11_leastCrew_45, E_X11_leastCrew_47, E_X11_leastCrew_50, E_X11_leastCrew_51, E_X11_leastCrew_53, E_X11_leastCrew_54, E_X11_leastCrew_57, E_X11_leastCrew_58, E_X11_leastCrew_61, E_X11_leastCrew_63, E_X11_leastCrew_65, E_X11_leastCrew_67, E_X11_leastCrew_69, E_X11_leastCrew_72, E_X11_leastCrew_75, E_X11_leastCrew_77, hL2, List.map_nil, List.map_cons, List.sum_cons, List.sum_nil, gcat_i, gcat_r, gcat_l, Nat.reduceAdd, Nat.reduceLeDiff, Nat.zero_le, Option.toList, List.cons_append, List.nil_append, gnk_i, gnk_r, gnk_n, gi_1, Nat.reduceLT, if_true, if_false]
        exact hi g s2 _ (by omega) hg (cT_trans hT hT2) (gR_T hR k6 hT2) he
theorem a_laid_all (hk : gA_ok p) (h3 : gA_k3 p) : a_laid p (2 ^ p.1.2.1 - 1) k = gA_cnt (gA_go k p) 2 := by
  unfold a_laid
  rw [gA_cut_id (fun v _ hv h0 h1 => ?_)]
  rcases h3 v (by omega) with e | ⟨c, hc, e⟩
  · exact absurd e h1
  · have k6 := hk.1
    rw [e, nI_clamp (by omega), all_bit hc k6]
    decide
theorem c_crew (hR : gR s 83 f m p) (hk : gA_ok p) (h3 : gA_k3 p) (hh : p.1.1 ≤ 9999) (hk60 : k ≤ 60) (hq : ∀ s', cT s s' → Q (some (.int (a_crew p k))) (gm_m s')) : gc_X w (d + 6) 104 0 [some (.ref 0), some (.int (nI k)), none, none, none, none, none, none] [] (gm_m s) Q := by
  have k6 := hk.1
  have hp : 2 ^ p.1.2.1 ≤ 2 ^ 6 := Nat.pow_le_pow_right (by omega) k6
  have hp0 : 0 < 2 ^ p.1.2.1 := Nat.pow_pos (by omega)
  have h4 : s.1 83 4 = nI p.1.2.1 := hR.2.2.2.2.2.1
  have e1 : (1 : Int32) <<< (nI p.1.2.1 &&& 31) = nI (1 * 2 ^ p.1.2.1) := pk_shlN (n := 1) (nI p.1.2.1 &&& 31) p.1.2.1 (s_l _ (by omega)) (by omega)
  rw [Nat.one_mul] at e1
  have e2 : nI (2 ^ p.1.2.1) - 1 = nI (2 ^ p.1.2.1 - 1) := gI_sub (b := 1) (by omega)
  simp only [E_X11_leastCrew_0, E_X11_leastCrew_1, E_X11_leastCrew_2, E_X11_leastCrew_5, E_X11_leastCrew_8, E_X11_leastCrew_9, E_X11_leastCrew_10, E_X11_leastCrew_11, E_X11_leastCrew_12, E_X11_leastCrew_13, E_X11_leastCrew_14, E_X11_leastCrew_15, E_X11_leastCrew_18, E_X11_leastCrew_19, E_X11_leastCrew_21, E_X11_leastCrew_23, E_X11_leastCrew_25, E_X11_leastCrew_27, E_X11_leastCrew_28, E_X11_leastCrew_32, E_X11_leastCrew_33, E_X11_leastCrew_36, E_X11_leastCrew_38, E_X11_leastCrew_41, E_X11_leastCrew_43, E_X11_leastCrew_45, E_X11_leastCrew_47, E_X11_leastCrew_50, E_X11_leastCrew_51, E_X11_leastCrew_53, E_X11_leastCrew_54, E_X11_leastCrew_57, E_X11_leastCrew_58, E_X11_leastCrew_61, E_X11_leastCrew_63, E_X11_leastCrew_65, E_X11_leastCrew_67, E_X11_leastCrew_69, E_X11_leastCrew_72, E_X11_leastCrew_75, E_X11_leastCrew_77, rk_0, rk_83, rc_0, rg_0_0, rg_83_4, h4, e1, e2, List.map_nil, List.map_cons, List.sum_cons, List.sum_nil, gcat_i, gcat_r, gcat_l, Nat.reduceAdd, Nat.reduceLeDiff, Nat.zero_le, Option.toList, List.cons_append, List.nil_append, gnk_i, gnk_r, gnk_n, gi_1, Nat.reduceLT, if_true, if_false]
  refine c_laidWith (by omega) hR hk h3 hh hk60 (fun s2 hT2 => ?_)
  rw [a_laid_all hk h3]
  simp only [E_X11_leastCrew_0, E_X11_leastCrew_1, E_X11_leastCrew_2, E_X11_leastCrew_5, E_X11_leastCrew_8, E_X11_leastCrew_9, E_X11_leastCrew_10, E_X11_leastCrew_11, E_X11_leastCrew_12, E_X11_leastCrew_13, E_X11_leastCrew_14, E_X11_leastCrew_15, E_X11_leastCrew_18, E_X11_leastCrew_19, E_X11_leastCrew_21, E_X11_leastCrew_23, E_X11_leastCrew_25, E_X11_leastCrew_27, E_X11_leastCrew_28, E_X11_leastCrew_32, E_X11_leastCrew_33, E_X11_leastCrew_36, E_X11_leastCrew_38, E_X11_leastCrew_41, E_X11_leastCrew_43, E_X11_leastCrew_45, E_X11_leastCrew_47, E_X11_leastCrew_50, E_X11_leastCrew_51, E_X11_leastCrew_53, E_X11_leastCrew_54, E_X11_leastCrew_57, E_X11_leastCrew_58, E_X11_leastCrew_61, E_X11_leastCrew_63, E_X11_leastCrew_65, E_X11_leastCrew_67, E_X11_leastCrew_69, E_X11_leastCrew_72, E_X11_leastCrew_75, E_X11_leastCrew_77, List.map_nil, List.map_cons, List.sum_cons, List.sum_nil, gcat_i, gcat_r, gcat_l, Nat.reduceAdd, Nat.reduceLeDiff, Nat.zero_le, Option.toList, List.cons_append, List.nil_append, gnk_i, gnk_r, gnk_n, gi_1, Nat.reduceLT, if_true, if_false]
  rw [show (7 : Int32) = nI (gpcO none) from rfl, show (0 : Int32) = nI 0 from rfl, show (-5 : Int32) = gp_i none (-5) from rfl]
  exact c_crew_loop (s0 := s) hk h3 hh hk60 hq (2 ^ p.1.2.1) 0 none s2 _ (by omega) (fun v e => by cases e) hT2 (gR_T hR k6 hT2) rfl
theorem gB_lohi {x : Int32} {a b : Nat} (ha : a < 2 ^ 31) : gB_in x (nI (a + 1)) (nI b) = (!(decide (x < nI (a + 1))) && !(decide (nI b < x))) := rfl
theorem c_best (hR : gR s 83 f m p) (hk : gA_ok p) (h3 : gA_k3 p) (hh : p.1.1 ≤ 9999) (hq : ∀ s', cT s s' → Q (some (.int (a_best p n x))) (gm_m s')) : gc_X w (d + 7) 78 0 [some (.ref 0), some (.int n), some (.int x)] [] (gm_m s) Q := by
  have hw := fun (a b : Int32) (Q : Option Value → gc_M → Prop) => c_within (w := w) (d := d + 6) (s := s) (x := a) (y := b) (Q := Q)
  unfold a_best at hq
  cases b1 : gB_in x 0 1 with
  | false =>
    rw [b1, if_pos rfl] at hq
    simp only [E_X11_best_0, E_X11_best_1, E_X11_best_2, E_X11_best_5, E_X11_best_8, E_X11_best_9, E_X11_best_10, E_X11_best_11, E_X11_best_12, E_X11_best_15, E_X11_best_16, E_X11_best_17, E_X11_best_20, E_X11_best_22, E_X11_best_25, E_X11_best_27, E_X11_best_30, E_X11_best_32, E_X11_best_33, E_X11_best_34, E_X11_best_37, E_X11_best_38, E_X11_best_39, E_X11_best_42, E_X11_best_45, E_X11_best_46, E_X11_best_47, E_X11_best_50, hw, b1, gb_0, List.map_nil, List.map_cons, List.sum_cons, List.sum_nil, gcat_i, gcat_r, gcat_l, Nat.reduceAdd, Nat.reduceLeDiff, Nat.zero_le, Option.toList, List.cons_append, List.nil_append, gnk_i, gnk_r, gnk_n, gi_1, Nat.reduceLT, if_true, if_false]
    exact hq s cT_refl
  | true =>
    rw [b1, if_neg (by decide)] at hq
    have b0 : gB_in 0 0 1 = true := rfl
    by_cases x0 : x = 0
    · rw [if_pos x0] at hq
      cases b2 : gB_in n 1 20 with
      | false =>
        rw [b2, if_pos rfl] at hq
        have hr : n < 1 ∨ 20 < n := by
          have : (!(decide (n < 1)) && !(decide ((20 : Int32) < n))) = false := b2
          by_cases q : n < 1
          · exact Or.inl q
          · by_cases q2 : (20 : Int32) < n
            · exact Or.inr q2
            · simp [q, q2] at this
        by_cases q : n < 1
        · simp only [E_X11_best_0, E_X11_best_1, E_X11_best_2, E_X11_best_5, E_X11_best_8, E_X11_best_9, E_X11_best_10, E_X11_best_11, E_X11_best_12, E_X11_best_15, E_X11_best_16, E_X11_best_17, E_X11_best_20, E_X11_best_22, E_X11_best_25, E_X11_best_27, E_X11_best_30, E_X11_best_32, E_X11_best_33, E_X11_best_34, E_X11_best_37, E_X11_best_38, E_X11_best_39, E_X11_best_42, E_X11_best_45, E_X11_best_46, E_X11_best_47, E_X11_best_50, hw, b0, q, x0, gb_1, g1_0, List.map_nil, List.map_cons, List.sum_cons, List.sum_nil, gcat_i, gcat_r, gcat_l, Nat.reduceAdd, Nat.reduceLeDiff, Nat.zero_le, Option.toList, List.cons_append, List.nil_append, gnk_i, gnk_r, gnk_n, gi_1, Nat.reduceLT, if_true, if_false]
          exact hq s cT_refl
        · have q3 : (20 : Int32) < n := hr.resolve_left q
          have q2 : ¬ n ≤ 20 := by
            rw [gx_lt] at q3
            rw [gx_le]
            omega
          simp only [E_X11_best_0, E_X11_best_1, E_X11_best_2, E_X11_best_5, E_X11_best_8, E_X11_best_9, E_X11_best_10, E_X11_best_11, E_X11_best_12, E_X11_best_15, E_X11_best_16, E_X11_best_17, E_X11_best_20, E_X11_best_22, E_X11_best_25, E_X11_best_27, E_X11_best_30, E_X11_best_32, E_X11_best_33, E_X11_best_34, E_X11_best_37, E_X11_best_38, E_X11_best_39, E_X11_best_42, E_X11_best_45, E_X11_best_46, E_X11_best_47, E_X11_best_50, hw, b0, q, q2, x0, gb_1, g1_0, List.map_nil, List.map_cons, List.sum_cons, List.sum_nil, gcat_i, gcat_r, gcat_l, Nat.reduceAdd, Nat.reduceLeDiff, Nat.zero_le, Option.toList, List.cons_append, List.nil_append, gnk_i, gnk_r, gnk_n, gi_1, Nat.reduceLT, if_true, if_false]
          exact hq s cT_refl
      | true =>
        rw [b2, if_neg (by decide)] at hq
        obtain ⟨j, hj, hj2, e⟩ := (gB_ab (a := 1) (b := 20) (by omega) (by omega)).mp b2
        subst e
        have ek : (nI j).toNatClampNeg = j := nI_clamp (by omega)
        rw [ek] at hq
        have q : ¬ nI j < 1 := nI_nlt (b := 1) hj (by omega)
        have q2 : nI j ≤ 20 := nI_le (b := 20) hj2 (by omega)
        simp only [E_X11_best_0, E_X11_best_1, E_X11_best_2, E_X11_best_5, E_X11_best_8, E_X11_best_9, E_X11_best_10, E_X11_best_11, E_X11_best_12, E_X11_best_15, E_X11_best_16, E_X11_best_17, E_X11_best_20, E_X11_best_22, E_X11_best_25, E_X11_best_27, E_X11_best_30, E_X11_best_32, E_X11_best_33, E_X11_best_34, E_X11_best_37, E_X11_best_38, E_X11_best_39, E_X11_best_42, E_X11_best_45, E_X11_best_46, E_X11_best_47, E_X11_best_50, hw, rc_0, b0, q, q2, x0, gb_1, g1_0, List.map_nil, List.map_cons, List.sum_cons, List.sum_nil, gcat_i, gcat_r, gcat_l, Nat.reduceAdd, Nat.reduceLeDiff, Nat.zero_le, Option.toList, List.cons_append, List.nil_append, gnk_i, gnk_r, gnk_n, gi_1, Nat.reduceLT, if_true, if_false]
        refine c_change hR hk hh (by omega) (fun s' hT' => ?_)
        simp only [E_X11_best_0, E_X11_best_1, E_X11_best_2, E_X11_best_5, E_X11_best_8, E_X11_best_9, E_X11_best_10, E_X11_best_11, E_X11_best_12, E_X11_best_15, E_X11_best_16, E_X11_best_17, E_X11_best_20, E_X11_best_22, E_X11_best_25, E_X11_best_27, E_X11_best_30, E_X11_best_32, E_X11_best_33, E_X11_best_34, E_X11_best_37, E_X11_best_38, E_X11_best_39, E_X11_best_42, E_X11_best_45, E_X11_best_46, E_X11_best_47, E_X11_best_50, List.map_nil, List.map_cons, List.sum_cons, List.sum_nil, gcat_i, gcat_r, gcat_l, Nat.reduceAdd, Nat.reduceLeDiff, Nat.zero_le, Option.toList, List.cons_append, List.nil_append, gnk_i, gnk_r, gnk_n, gi_1, Nat.reduceLT, if_true, if_false]
        exact hq s' hT'
    · rw [if_neg x0] at hq
      cases b2 : gB_in n 1 12 with
      | false =>
        rw [b2, if_pos rfl] at hq
        have hr : n < 1 ∨ 12 < n := by
          have : (!(decide (n < 1)) && !(decide ((12 : Int32) < n))) = false := b2
          by_cases q : n < 1
          · exact Or.inl q
          · by_cases q2 : (12 : Int32) < n
            · exact Or.inr q2
            · simp [q, q2] at this
        by_cases q : n < 1
        · simp only [E_X11_best_0, E_X11_best_1, E_X11_best_2, E_X11_best_5, E_X11_best_8, E_X11_best_9, E_X11_best_10, E_X11_best_11, E_X11_best_12, E_X11_best_15, E_X11_best_16, E_X11_best_17, E_X11_best_20, E_X11_best_22, E_X11_best_25, E_X11_best_27, E_X11_best_30, E_X11_best_32, E_X11_best_33, E_X11_best_34, E_X11_best_37, E_X11_best_38, E_X11_best_39, E_X11_best_42, E_X11_best_45, E_X11_best_46, E_X11_best_47, E_X11_best_50, hw, b1, q, x0, gb_1, g1_0, List.map_nil, List.map_cons, List.sum_cons, List.sum_nil, gcat_i, gcat_r, gcat_l, Nat.reduceAdd, Nat.reduceLeDiff, Nat.zero_le, Option.toList, List.cons_append, List.nil_append, gnk_i, gnk_r, gnk_n, gi_1, Nat.reduceLT, if_true, if_false]
          exact hq s cT_refl
        · have q3 : (12 : Int32) < n := hr.resolve_left q
          have q2 : ¬ n ≤ 12 := by
            rw [gx_lt] at q3
            rw [gx_le]
            omega
          simp only [E_X11_best_0, E_X11_best_1, E_X11_best_2, E_X11_best_5, E_X11_best_8, E_X11_best_9, E_X11_best_10, E_X11_best_11, E_X11_best_12, E_X11_best_15, E_X11_best_16, E_X11_best_17, E_X11_best_20, E_X11_best_22, E_X11_best_25, E_X11_best_27, E_X11_best_30, E_X11_best_32, E_X11_best_33, E_X11_best_34, E_X11_best_37, E_X11_best_38, E_X11_best_39, E_X11_best_42, E_X11_best_45, E_X11_best_46, E_X11_best_47, E_X11_best_50, hw, b1, q, q2, x0, gb_1, g1_0, List.map_nil, List.map_cons, List.sum_cons, List.sum_nil, gcat_i, gcat_r, gcat_l, Nat.reduceAdd, Nat.reduceLeDiff, Nat.zero_le, Option.toList, List.cons_append, List.nil_append, gnk_i, gnk_r, gnk_n, gi_1, Nat.reduceLT, if_true, if_false]
          exact hq s cT_refl
      | true =>
        rw [b2, if_neg (by decide)] at hq
        obtain ⟨j, hj, hj2, e⟩ := (gB_ab (a := 1) (b := 12) (by omega) (by omega)).mp b2
        subst e
        have ek : (nI j).toNatClampNeg = j := nI_clamp (by omega)
        rw [ek] at hq
        have q : ¬ nI j < 1 := nI_nlt (b := 1) hj (by omega)
        have q2 : nI j ≤ 12 := nI_le (b := 12) hj2 (by omega)
        simp only [E_X11_best_0, E_X11_best_1, E_X11_best_2, E_X11_best_5, E_X11_best_8, E_X11_best_9, E_X11_best_10, E_X11_best_11, E_X11_best_12, E_X11_best_15, E_X11_best_16, E_X11_best_17, E_X11_best_20, E_X11_best_22, E_X11_best_25, E_X11_best_27, E_X11_best_30, E_X11_best_32, E_X11_best_33, E_X11_best_34, E_X11_best_37, E_X11_best_38, E_X11_best_39, E_X11_best_42, E_X11_best_45, E_X11_best_46, E_X11_best_47, E_X11_best_50, hw, rc_0, b1, q, q2, x0, gb_1, g1_0, List.map_nil, List.map_cons, List.sum_cons, List.sum_nil, gcat_i, gcat_r, gcat_l, Nat.reduceAdd, Nat.reduceLeDiff, Nat.zero_le, Option.toList, List.cons_append, List.nil_append, gnk_i, gnk_r, gnk_n, gi_1, Nat.reduceLT, if_true, if_false]
        refine c_crew hR hk h3 hh (by omega) (fun s' hT' => ?_)
        simp only [E_X11_best_0, E_X11_best_1, E_X11_best_2, E_X11_best_5, E_X11_best_8, E_X11_best_9, E_X11_best_10, E_X11_best_11, E_X11_best_12, E_X11_best_15, E_X11_best_16, E_X11_best_17, E_X11_best_20, E_X11_best_22, E_X11_best_25, E_X11_best_27, E_X11_best_30, E_X11_best_32, E_X11_best_33, E_X11_best_34, E_X11_best_37, E_X11_best_38, E_X11_best_39, E_X11_best_42, E_X11_best_45, E_X11_best_46, E_X11_best_47, E_X11_best_50, List.map_nil, List.map_cons, List.sum_cons, List.sum_nil, gcat_i, gcat_r, gcat_l, Nat.reduceAdd, Nat.reduceLeDiff, Nat.zero_le, Option.toList, List.cons_append, List.nil_append, gnk_i, gnk_r, gnk_n, gi_1, Nat.reduceLT, if_true, if_false]
        exact hq s' hT'
end
