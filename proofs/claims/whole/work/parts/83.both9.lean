/-! both sides: judge, shift, taken -/
theorem gI_subT {a b : Nat} (ha : a ≤ 60) (hb : b < 2 ^ 31) : (nI a - nI b).toInt = (a : Int) - b := by
  rw [Int32.toInt_sub, nI_toInt (by omega), nI_toInt hb]
  apply Int.bmod_eq_of_le <;> omega
/-- judged: the row from place jo on -/
def gJ (g : Nat → Int64) (p : gA) (n : Nat) (jo : Option Nat) : Nat → Nat → Int32
  | 0, _ => -5
  | m + 1, t => match jo with
    | none => 100 + nI t
    | some j => if j + t < n then (if lg_cmp (g (j + t)) (p.2.1 12 t).toInt64 = 0 then gJ g p n jo m (t + 1) else nI t) else 100 + nI t
def gJo (y : Int32) (jo : Option Nat) : Prop := match jo with
  | none => y < 0
  | some j => y = nI j ∧ j < 2 ^ 31
theorem gJ_s {g : Nat → Int64} {p : gA} {n j m t : Nat} : gJ g p n (some j) (m + 1) t = if j + t < n then (if lg_cmp (g (j + t)) (p.2.1 12 t).toInt64 = 0 then gJ g p n (some j) m (t + 1) else nI t) else 100 + nI t := rfl
section
variable {w : Nat × (Nat → Int32)} {s : gm_S} {x y z u v : Int32} {d : Nat} {Q : Option Value → gc_M → Prop}
theorem c_judge_loop {f m q n : Nat} {p : gA} {jo : Option Nat} (hq : q < 6) (hR : gR s 83 f m p) (hk : gA_ok p) (h1 : s.1 (52 + 2 * q) 1 = nI n) (hn : n ≤ 60) (hj : gJo y jo) : ∀ (k t : Nat), t + k = p.1.2.2 → gc_X w d 87 38 [some (.ref 0), some (.int x), some (.int y), some (.ref (52 + 2 * q)), some (.int (nI t))] [] (gm_m s) Q = Q (some (.int (gJ (s.2.2 (53 + 2 * q)) p n jo k t))) (gm_m s) := by
  intro k
  have k8 := hk.2.1
  have h9 : s.1 83 9 = nI p.1.2.2 := hR.2.2.2.2.2.2.1
  induction k with
  | zero =>
    intro t ht
    have e : p.1.2.2 = t := by omega
    rw [e] at h9
    rw [E_X11_judge_38]
    simp only [E_X11_judge_0, E_X11_judge_1, E_X11_judge_2, E_X11_judge_5, E_X11_judge_8, E_X11_judge_9, E_X11_judge_10, E_X11_judge_11, E_X11_judge_14, E_X11_judge_15, E_X11_judge_16, E_X11_judge_17, E_X11_judge_18, E_X11_judge_21, E_X11_judge_22, E_X11_judge_25, E_X11_judge_26, E_X11_judge_29, E_X11_judge_32, E_X11_judge_34, E_X11_judge_35, E_X11_judge_36, E_X11_judge_40, E_X11_judge_41, E_X11_judge_44, E_X11_judge_47, E_X11_judge_50, E_X11_judge_51, E_X11_judge_54, E_X11_judge_55, E_X11_judge_56, E_X11_judge_59, E_X11_judge_61, E_X11_judge_62, E_X11_judge_65, E_X11_judge_67, E_X11_judge_69, E_X11_judge_70, E_X11_judge_71, E_X11_judge_72, E_X11_judge_75, E_X11_judge_76, E_X11_judge_78, E_X11_judge_79, E_X11_judge_80, E_X11_judge_81, E_X11_judge_84, E_X11_judge_87, E_X11_judge_89, E_X11_judge_90, E_X11_judge_91, E_X11_judge_92, E_X11_judge_95, E_X11_judge_97, E_X11_judge_98, E_X11_judge_101, E_X11_judge_104, E_X11_judge_106, rk_0, rk_83, rg_0_0, rg_83_9, h9, nI_le (Nat.le_refl t) (by omega : t < 2 ^ 31), gJ, gnk_i, gnk_r, gnk_n, gi_1, Nat.reduceLT, if_true, if_false]
  | succ k ih =>
    intro t ht
    have htl : t < p.1.2.2 := by omega
    have i3 : vp_in (nI t) 8 := vp_in_nI (by omega) (by omega)
    have i4 : (nI t).toNatClampNeg = t := nI_clamp (by omega)
    have a12 : s.1 95 t = p.2.1 12 t := hR.2.2.2.2.2.2.2.1 12 t (Or.inr (Or.inr (Or.inr ⟨by omega, by omega, htl⟩)))
    have hge : ¬ nI p.1.2.2 ≤ nI t := nI_ge (by omega) (by omega)
    have hi := ih (t + 1) (by omega)
    rw [nI_succ] at hi
    rw [E_X11_judge_38]
    cases jo with
    | none =>
      have hy : y < 0 := hj
      simp only [E_X11_judge_0, E_X11_judge_1, E_X11_judge_2, E_X11_judge_5, E_X11_judge_8, E_X11_judge_9, E_X11_judge_10, E_X11_judge_11, E_X11_judge_14, E_X11_judge_15, E_X11_judge_16, E_X11_judge_17, E_X11_judge_18, E_X11_judge_21, E_X11_judge_22, E_X11_judge_25, E_X11_judge_26, E_X11_judge_29, E_X11_judge_32, E_X11_judge_34, E_X11_judge_35, E_X11_judge_36, E_X11_judge_40, E_X11_judge_41, E_X11_judge_44, E_X11_judge_47, E_X11_judge_50, E_X11_judge_51, E_X11_judge_54, E_X11_judge_55, E_X11_judge_56, E_X11_judge_59, E_X11_judge_61, E_X11_judge_62, E_X11_judge_65, E_X11_judge_67, E_X11_judge_69, E_X11_judge_70, E_X11_judge_71, E_X11_judge_72, E_X11_judge_75, E_X11_judge_76, E_X11_judge_78, E_X11_judge_79, E_X11_judge_80, E_X11_judge_81, E_X11_judge_84, E_X11_judge_87, E_X11_judge_89, E_X11_judge_90, E_X11_judge_91, E_X11_judge_92, E_X11_judge_95, E_X11_judge_97, E_X11_judge_98, E_X11_judge_101, E_X11_judge_104, E_X11_judge_106, rk_0, rk_83, rg_0_0, rg_83_9, h9, hge, hy, gJ, gnk_i, gnk_r, gnk_n, gi_1, Nat.reduceLT, if_true, if_false]
    | some j =>
      obtain ⟨e, hj2⟩ := hj
      subst e
      have hy : ¬ nI j < 0 := nI_pos hj2
      rw [gJ_s]
      by_cases hl : j + t < n
      · have hl2 : nI j < nI n - nI t := by
          rw [gx_lt, gI_subT hn (by omega), nI_toInt hj2]
          omega
        have e2 : nI j + nI t = nI (j + t) := nI_add _ _
        have j1 : vp_in (nI (j + t)) 60 := vp_in_nI (by omega) (by omega)
        have j2 : (nI (j + t)).toNatClampNeg = j + t := nI_clamp (by omega)
        rw [if_pos hl]
        by_cases hc : lg_cmp (s.2.2 (53 + 2 * q) (j + t)) (p.2.1 12 t).toInt64 = 0
        · rw [if_pos hc]
          simp only [E_X11_judge_0, E_X11_judge_1, E_X11_judge_2, E_X11_judge_5, E_X11_judge_8, E_X11_judge_9, E_X11_judge_10, E_X11_judge_11, E_X11_judge_14, E_X11_judge_15, E_X11_judge_16, E_X11_judge_17, E_X11_judge_18, E_X11_judge_21, E_X11_judge_22, E_X11_judge_25, E_X11_judge_26, E_X11_judge_29, E_X11_judge_32, E_X11_judge_34, E_X11_judge_35, E_X11_judge_36, E_X11_judge_40, E_X11_judge_41, E_X11_judge_44, E_X11_judge_47, E_X11_judge_50, E_X11_judge_51, E_X11_judge_54, E_X11_judge_55, E_X11_judge_56, E_X11_judge_59, E_X11_judge_61, E_X11_judge_62, E_X11_judge_65, E_X11_judge_67, E_X11_judge_69, E_X11_judge_70, E_X11_judge_71, E_X11_judge_72, E_X11_judge_75, E_X11_judge_76, E_X11_judge_78, E_X11_judge_79, E_X11_judge_80, E_X11_judge_81, E_X11_judge_84, E_X11_judge_87, E_X11_judge_89, E_X11_judge_90, E_X11_judge_91, E_X11_judge_92, E_X11_judge_95, E_X11_judge_97, E_X11_judge_98, E_X11_judge_101, E_X11_judge_104, E_X11_judge_106, rk_0, rk_83, rg_0_0, rg_83_9, rg_83_10, ra_95, rv_95, tk_ok hq, tg_1 hq, tg_2 hq, tg_a hq, tg_v hq, h1, h9, hge, hy, hl2, e2, j1, j2, i3, i4, a12, hc, hi, gnk_i, gnk_r, gnk_n, gi_1, Nat.reduceLT, if_true, if_false]
        · rw [if_neg hc]
          simp only [E_X11_judge_0, E_X11_judge_1, E_X11_judge_2, E_X11_judge_5, E_X11_judge_8, E_X11_judge_9, E_X11_judge_10, E_X11_judge_11, E_X11_judge_14, E_X11_judge_15, E_X11_judge_16, E_X11_judge_17, E_X11_judge_18, E_X11_judge_21, E_X11_judge_22, E_X11_judge_25, E_X11_judge_26, E_X11_judge_29, E_X11_judge_32, E_X11_judge_34, E_X11_judge_35, E_X11_judge_36, E_X11_judge_40, E_X11_judge_41, E_X11_judge_44, E_X11_judge_47, E_X11_judge_50, E_X11_judge_51, E_X11_judge_54, E_X11_judge_55, E_X11_judge_56, E_X11_judge_59, E_X11_judge_61, E_X11_judge_62, E_X11_judge_65, E_X11_judge_67, E_X11_judge_69, E_X11_judge_70, E_X11_judge_71, E_X11_judge_72, E_X11_judge_75, E_X11_judge_76, E_X11_judge_78, E_X11_judge_79, E_X11_judge_80, E_X11_judge_81, E_X11_judge_84, E_X11_judge_87, E_X11_judge_89, E_X11_judge_90, E_X11_judge_91, E_X11_judge_92, E_X11_judge_95, E_X11_judge_97, E_X11_judge_98, E_X11_judge_101, E_X11_judge_104, E_X11_judge_106, rk_0, rk_83, rg_0_0, rg_83_9, rg_83_10, ra_95, rv_95, tk_ok hq, tg_1 hq, tg_2 hq, tg_a hq, tg_v hq, h1, h9, hge, hy, hl2, e2, j1, j2, i3, i4, a12, hc, gnk_i, gnk_r, gnk_n, gi_1, Nat.reduceLT, if_true, if_false]
      · have hl2 : ¬ nI j < nI n - nI t := by
          rw [gx_lt, gI_subT hn (by omega), nI_toInt hj2]
          omega
        rw [if_neg hl]
        simp only [E_X11_judge_0, E_X11_judge_1, E_X11_judge_2, E_X11_judge_5, E_X11_judge_8, E_X11_judge_9, E_X11_judge_10, E_X11_judge_11, E_X11_judge_14, E_X11_judge_15, E_X11_judge_16, E_X11_judge_17, E_X11_judge_18, E_X11_judge_21, E_X11_judge_22, E_X11_judge_25, E_X11_judge_26, E_X11_judge_29, E_X11_judge_32, E_X11_judge_34, E_X11_judge_35, E_X11_judge_36, E_X11_judge_40, E_X11_judge_41, E_X11_judge_44, E_X11_judge_47, E_X11_judge_50, E_X11_judge_51, E_X11_judge_54, E_X11_judge_55, E_X11_judge_56, E_X11_judge_59, E_X11_judge_61, E_X11_judge_62, E_X11_judge_65, E_X11_judge_67, E_X11_judge_69, E_X11_judge_70, E_X11_judge_71, E_X11_judge_72, E_X11_judge_75, E_X11_judge_76, E_X11_judge_78, E_X11_judge_79, E_X11_judge_80, E_X11_judge_81, E_X11_judge_84, E_X11_judge_87, E_X11_judge_89, E_X11_judge_90, E_X11_judge_91, E_X11_judge_92, E_X11_judge_95, E_X11_judge_97, E_X11_judge_98, E_X11_judge_101, E_X11_judge_104, E_X11_judge_106, rk_0, rk_83, rg_0_0, rg_83_9, tk_ok hq, tg_1 hq, h1, h9, hge, hy, hl2, gnk_i, gnk_r, gnk_n, gi_1, Nat.reduceLT, if_true, if_false]
theorem m_judge_loop {q n : Nat} {p : gA} {so : Int32} {jo : Option Nat} {g : Nat → Int64} (hq : q < 6) (hR : mR s p) (hk : gA_ok p) (h0 : s.1 188 q = so) (hso : so < 0 → n = 0) (h1 : s.1 189 q = nI n) (hn : n ≤ 60) (hg : ∀ i, i < 60 → g i = s.2.2 190 (60 * q + i)) (hj : gJo y jo) : ∀ (k t : Nat), t + k = p.1.2.2 → gc_X w d 183 24 [some (.ref 137), some (.int (nI q)), some (.int y), some (.int (nI t))] [] (gm_m s) Q = Q (some (.int (gJ g p n jo k t))) (gm_m s) := by
  intro k
  have k8 := hk.2.1
  have h9 := hR.2.1
  have i1 : vp_in (nI q) 6 := vp_in_nI (by omega) (by omega)
  have i2 : (nI q).toNatClampNeg = q := nI_clamp (by omega)
  induction k with
  | zero =>
    intro t ht
    have e : p.1.2.2 = t := by omega
    rw [e] at h9
    rw [E_X12_judge_24]
    simp only [E_X12_judge_0, E_X12_judge_1, E_X12_judge_2, E_X12_judge_5, E_X12_judge_8, E_X12_judge_9, E_X12_judge_10, E_X12_judge_11, E_X12_judge_14, E_X12_judge_15, E_X12_judge_16, E_X12_judge_19, E_X12_judge_21, E_X12_judge_22, E_X12_judge_23, E_X12_judge_25, E_X12_judge_26, E_X12_judge_29, E_X12_judge_32, E_X12_judge_33, E_X12_judge_36, E_X12_judge_37, E_X12_judge_38, E_X12_judge_41, E_X12_judge_42, E_X12_judge_45, E_X12_judge_46, E_X12_judge_47, E_X12_judge_50, E_X12_judge_51, E_X12_judge_52, E_X12_judge_53, E_X12_judge_54, E_X12_judge_55, E_X12_judge_56, E_X12_judge_59, E_X12_judge_61, E_X12_judge_62, E_X12_judge_63, E_X12_judge_64, E_X12_judge_65, E_X12_judge_68, E_X12_judge_70, E_X12_judge_71, E_X12_judge_72, E_X12_judge_73, E_X12_judge_74, E_X12_judge_75, E_X12_judge_76, E_X12_judge_77, E_X12_judge_78, E_X12_judge_81, E_X12_judge_82, E_X12_judge_83, E_X12_judge_84, E_X12_judge_85, E_X12_judge_88, E_X12_judge_89, E_X12_judge_90, E_X12_judge_93, E_X12_judge_96, E_X12_judge_98, rk_137, rg_137_1, h9, nI_le (Nat.le_refl t) (by omega : t < 2 ^ 31), gJ, gnk_i, gnk_r, gnk_n, gi_1, Nat.reduceLT, if_true, if_false]
  | succ k ih =>
    intro t ht
    have htl : t < p.1.2.2 := by omega
    have i3 : vp_in (nI t) 8 := vp_in_nI (by omega) (by omega)
    have i4 : (nI t).toNatClampNeg = t := nI_clamp (by omega)
    obtain ⟨a12, -⟩ := hR.2.2.2.2.2 t htl
    have hge : ¬ nI p.1.2.2 ≤ nI t := nI_ge (by omega) (by omega)
    have hi := ih (t + 1) (by omega)
    rw [nI_succ] at hi
    rw [E_X12_judge_24]
    by_cases hs : so < 0
    · have n0 := hso hs
      have er : gJ g p n jo (k + 1) t = 100 + nI t := by
        cases jo with
        | none => rfl
        | some j => rw [gJ_s, if_neg (by omega)]
      rw [er]
      simp only [E_X12_judge_0, E_X12_judge_1, E_X12_judge_2, E_X12_judge_5, E_X12_judge_8, E_X12_judge_9, E_X12_judge_10, E_X12_judge_11, E_X12_judge_14, E_X12_judge_15, E_X12_judge_16, E_X12_judge_19, E_X12_judge_21, E_X12_judge_22, E_X12_judge_23, E_X12_judge_25, E_X12_judge_26, E_X12_judge_29, E_X12_judge_32, E_X12_judge_33, E_X12_judge_36, E_X12_judge_37, E_X12_judge_38, E_X12_judge_41, E_X12_judge_42, E_X12_judge_45, E_X12_judge_46, E_X12_judge_47, E_X12_judge_50, E_X12_judge_51, E_X12_judge_52, E_X12_judge_53, E_X12_judge_54, E_X12_judge_55, E_X12_judge_56, E_X12_judge_59, E_X12_judge_61, E_X12_judge_62, E_X12_judge_63, E_X12_judge_64, E_X12_judge_65, E_X12_judge_68, E_X12_judge_70, E_X12_judge_71, E_X12_judge_72, E_X12_judge_73, E_X12_judge_74, E_X12_judge_75, E_X12_judge_76, E_X12_judge_77, E_X12_judge_78, E_X12_judge_81, E_X12_judge_82, E_X12_judge_83, E_X12_judge_84, E_X12_judge_85, E_X12_judge_88, E_X12_judge_89, E_X12_judge_90, E_X12_judge_93, E_X12_judge_96, E_X12_judge_98, rk_137, rg_137_1, rg_137_75, ra_188, rv_188, i1, i2, h0, hs, h9, hge, gnk_i, gnk_r, gnk_n, gi_1, Nat.reduceLT, if_true, if_false]
    cases jo with
    | none =>
      have hy : y < 0 := hj
      simp only [E_X12_judge_0, E_X12_judge_1, E_X12_judge_2, E_X12_judge_5, E_X12_judge_8, E_X12_judge_9, E_X12_judge_10, E_X12_judge_11, E_X12_judge_14, E_X12_judge_15, E_X12_judge_16, E_X12_judge_19, E_X12_judge_21, E_X12_judge_22, E_X12_judge_23, E_X12_judge_25, E_X12_judge_26, E_X12_judge_29, E_X12_judge_32, E_X12_judge_33, E_X12_judge_36, E_X12_judge_37, E_X12_judge_38, E_X12_judge_41, E_X12_judge_42, E_X12_judge_45, E_X12_judge_46, E_X12_judge_47, E_X12_judge_50, E_X12_judge_51, E_X12_judge_52, E_X12_judge_53, E_X12_judge_54, E_X12_judge_55, E_X12_judge_56, E_X12_judge_59, E_X12_judge_61, E_X12_judge_62, E_X12_judge_63, E_X12_judge_64, E_X12_judge_65, E_X12_judge_68, E_X12_judge_70, E_X12_judge_71, E_X12_judge_72, E_X12_judge_73, E_X12_judge_74, E_X12_judge_75, E_X12_judge_76, E_X12_judge_77, E_X12_judge_78, E_X12_judge_81, E_X12_judge_82, E_X12_judge_83, E_X12_judge_84, E_X12_judge_85, E_X12_judge_88, E_X12_judge_89, E_X12_judge_90, E_X12_judge_93, E_X12_judge_96, E_X12_judge_98, rk_137, rg_137_1, rg_137_75, ra_188, rv_188, i1, i2, h0, hs, h9, hge, hy, gJ, gnk_i, gnk_r, gnk_n, gi_1, Nat.reduceLT, if_true, if_false]
    | some j =>
      obtain ⟨e, hj2⟩ := hj
      subst e
      have hy : ¬ nI j < 0 := nI_pos hj2
      have es : (nI n - nI t - 1).toInt = (n : Int) - t - 1 := by
        have h := gI_subT hn (by omega : t < 2 ^ 31)
        rw [Int32.toInt_sub, h]
        have e1 : (1 : Int32).toInt = 1 := by decide
        rw [e1]
        apply Int.bmod_eq_of_le <;> omega
      rw [gJ_s]
      by_cases hl : j + t < n
      · have hl2 : nI j ≤ nI n - nI t - 1 := by
          rw [gx_le, es, nI_toInt hj2]
          omega
        have e1 : (60 : Int32) * nI q = nI (60 * q) := gI_mul (a := 60)
        have e2 : nI (60 * q) + nI j = nI (60 * q + j) := nI_add _ _
        have e3 : nI (60 * q + j) + nI t = nI (60 * q + j + t) := nI_add _ _
        have j1 : vp_in (nI (60 * q + j + t)) 360 := vp_in_nI (by omega) (by omega)
        have j2 : (nI (60 * q + j + t)).toNatClampNeg = 60 * q + j + t := nI_clamp (by omega)
        have hgv : s.2.2 190 (60 * q + j + t) = g (j + t) := by rw [hg _ (by omega), Nat.add_assoc]
        rw [if_pos hl]
        by_cases hc : lg_cmp (g (j + t)) (p.2.1 12 t).toInt64 = 0
        · rw [if_pos hc]
          simp only [E_X12_judge_0, E_X12_judge_1, E_X12_judge_2, E_X12_judge_5, E_X12_judge_8, E_X12_judge_9, E_X12_judge_10, E_X12_judge_11, E_X12_judge_14, E_X12_judge_15, E_X12_judge_16, E_X12_judge_19, E_X12_judge_21, E_X12_judge_22, E_X12_judge_23, E_X12_judge_25, E_X12_judge_26, E_X12_judge_29, E_X12_judge_32, E_X12_judge_33, E_X12_judge_36, E_X12_judge_37, E_X12_judge_38, E_X12_judge_41, E_X12_judge_42, E_X12_judge_45, E_X12_judge_46, E_X12_judge_47, E_X12_judge_50, E_X12_judge_51, E_X12_judge_52, E_X12_judge_53, E_X12_judge_54, E_X12_judge_55, E_X12_judge_56, E_X12_judge_59, E_X12_judge_61, E_X12_judge_62, E_X12_judge_63, E_X12_judge_64, E_X12_judge_65, E_X12_judge_68, E_X12_judge_70, E_X12_judge_71, E_X12_judge_72, E_X12_judge_73, E_X12_judge_74, E_X12_judge_75, E_X12_judge_76, E_X12_judge_77, E_X12_judge_78, E_X12_judge_81, E_X12_judge_82, E_X12_judge_83, E_X12_judge_84, E_X12_judge_85, E_X12_judge_88, E_X12_judge_89, E_X12_judge_90, E_X12_judge_93, E_X12_judge_96, E_X12_judge_98, rk_137, rg_137_1, rg_137_8, rg_137_75, rg_137_76, rg_137_77, ra_143, rv_143, ra_188, rv_188, ra_189, rv_189, ra_190, rv_190, i1, i2, h0, h1, hs, h9, hge, hy, hl2, e1, e2, e3, j1, j2, i3, i4, a12, hgv, hc, hi, gnk_i, gnk_r, gnk_n, gi_1, Nat.reduceLT, if_true, if_false]
        · rw [if_neg hc]
          simp only [E_X12_judge_0, E_X12_judge_1, E_X12_judge_2, E_X12_judge_5, E_X12_judge_8, E_X12_judge_9, E_X12_judge_10, E_X12_judge_11, E_X12_judge_14, E_X12_judge_15, E_X12_judge_16, E_X12_judge_19, E_X12_judge_21, E_X12_judge_22, E_X12_judge_23, E_X12_judge_25, E_X12_judge_26, E_X12_judge_29, E_X12_judge_32, E_X12_judge_33, E_X12_judge_36, E_X12_judge_37, E_X12_judge_38, E_X12_judge_41, E_X12_judge_42, E_X12_judge_45, E_X12_judge_46, E_X12_judge_47, E_X12_judge_50, E_X12_judge_51, E_X12_judge_52, E_X12_judge_53, E_X12_judge_54, E_X12_judge_55, E_X12_judge_56, E_X12_judge_59, E_X12_judge_61, E_X12_judge_62, E_X12_judge_63, E_X12_judge_64, E_X12_judge_65, E_X12_judge_68, E_X12_judge_70, E_X12_judge_71, E_X12_judge_72, E_X12_judge_73, E_X12_judge_74, E_X12_judge_75, E_X12_judge_76, E_X12_judge_77, E_X12_judge_78, E_X12_judge_81, E_X12_judge_82, E_X12_judge_83, E_X12_judge_84, E_X12_judge_85, E_X12_judge_88, E_X12_judge_89, E_X12_judge_90, E_X12_judge_93, E_X12_judge_96, E_X12_judge_98, rk_137, rg_137_1, rg_137_8, rg_137_75, rg_137_76, rg_137_77, ra_143, rv_143, ra_188, rv_188, ra_189, rv_189, ra_190, rv_190, i1, i2, h0, h1, hs, h9, hge, hy, hl2, e1, e2, e3, j1, j2, i3, i4, a12, hgv, hc, gnk_i, gnk_r, gnk_n, gi_1, Nat.reduceLT, if_true, if_false]
      · have hl2 : ¬ nI j ≤ nI n - nI t - 1 := by
          rw [gx_le, es, nI_toInt hj2]
          omega
        rw [if_neg hl]
        simp only [E_X12_judge_0, E_X12_judge_1, E_X12_judge_2, E_X12_judge_5, E_X12_judge_8, E_X12_judge_9, E_X12_judge_10, E_X12_judge_11, E_X12_judge_14, E_X12_judge_15, E_X12_judge_16, E_X12_judge_19, E_X12_judge_21, E_X12_judge_22, E_X12_judge_23, E_X12_judge_25, E_X12_judge_26, E_X12_judge_29, E_X12_judge_32, E_X12_judge_33, E_X12_judge_36, E_X12_judge_37, E_X12_judge_38, E_X12_judge_41, E_X12_judge_42, E_X12_judge_45, E_X12_judge_46, E_X12_judge_47, E_X12_judge_50, E_X12_judge_51, E_X12_judge_52, E_X12_judge_53, E_X12_judge_54, E_X12_judge_55, E_X12_judge_56, E_X12_judge_59, E_X12_judge_61, E_X12_judge_62, E_X12_judge_63, E_X12_judge_64, E_X12_judge_65, E_X12_judge_68, E_X12_judge_70, E_X12_judge_71, E_X12_judge_72, E_X12_judge_73, E_X12_judge_74, E_X12_judge_75, E_X12_judge_76, E_X12_judge_77, E_X12_judge_78, E_X12_judge_81, E_X12_judge_82, E_X12_judge_83, E_X12_judge_84, E_X12_judge_85, E_X12_judge_88, E_X12_judge_89, E_X12_judge_90, E_X12_judge_93, E_X12_judge_96, E_X12_judge_98, rk_137, rg_137_1, rg_137_75, rg_137_76, ra_188, rv_188, ra_189, rv_189, i1, i2, h0, h1, hs, h9, hge, hy, hl2, gnk_i, gnk_r, gnk_n, gi_1, Nat.reduceLT, if_true, if_false]
theorem i_judge (h : gInv s) : gBoth w 87 183 [some (.ref 0), some (.int x), some (.int y), none, none] [some (.ref 137), some (.int x), some (.int y), none] s := by
  have h0 := h
  obtain ⟨φ, p, cu, cs, f, l1, l2, l3, h⟩ := gInv_I h
  have hw := fun (s : gm_S) (a b : Int32) (Q : Option Value → gc_M → Prop) => c_within (w := w) (d := 39) (s := s) (x := a) (y := b) (Q := Q)
  have mit := fun (s : gm_S) (a : Int32) (Q : Option Value → gc_M → Prop) => m_isTape (w := w) (d := 38) (s := s) (x := a) (Q := Q)
  cases b1 : gB_in x 0 5 with
  | false =>
    refine i_no h0 (-1) (fun Q => ?_) (fun Q => ?_)
    · simp only [E_X11_judge_0, E_X11_judge_1, E_X11_judge_2, E_X11_judge_5, E_X11_judge_8, E_X11_judge_9, E_X11_judge_10, E_X11_judge_11, E_X11_judge_14, E_X11_judge_15, E_X11_judge_16, E_X11_judge_17, E_X11_judge_18, E_X11_judge_21, E_X11_judge_22, E_X11_judge_25, E_X11_judge_26, E_X11_judge_29, E_X11_judge_32, E_X11_judge_34, E_X11_judge_35, E_X11_judge_36, E_X11_judge_40, E_X11_judge_41, E_X11_judge_44, E_X11_judge_47, E_X11_judge_50, E_X11_judge_51, E_X11_judge_54, E_X11_judge_55, E_X11_judge_56, E_X11_judge_59, E_X11_judge_61, E_X11_judge_62, E_X11_judge_65, E_X11_judge_67, E_X11_judge_69, E_X11_judge_70, E_X11_judge_71, E_X11_judge_72, E_X11_judge_75, E_X11_judge_76, E_X11_judge_78, E_X11_judge_79, E_X11_judge_80, E_X11_judge_81, E_X11_judge_84, E_X11_judge_87, E_X11_judge_89, E_X11_judge_90, E_X11_judge_91, E_X11_judge_92, E_X11_judge_95, E_X11_judge_97, E_X11_judge_98, E_X11_judge_101, E_X11_judge_104, E_X11_judge_106, hw, b1, gb_0, List.map_nil, List.map_cons, List.sum_cons, List.sum_nil, gcat_i, gcat_r, gcat_l, Nat.reduceAdd, Nat.reduceLeDiff, Nat.zero_le, Option.toList, List.cons_append, List.nil_append, gnk_i, gnk_r, gnk_n, gi_1, Nat.reduceLT, if_true, if_false]
    · simp only [E_X12_judge_0, E_X12_judge_1, E_X12_judge_2, E_X12_judge_5, E_X12_judge_8, E_X12_judge_9, E_X12_judge_10, E_X12_judge_11, E_X12_judge_14, E_X12_judge_15, E_X12_judge_16, E_X12_judge_19, E_X12_judge_21, E_X12_judge_22, E_X12_judge_23, E_X12_judge_25, E_X12_judge_26, E_X12_judge_29, E_X12_judge_32, E_X12_judge_33, E_X12_judge_36, E_X12_judge_37, E_X12_judge_38, E_X12_judge_41, E_X12_judge_42, E_X12_judge_45, E_X12_judge_46, E_X12_judge_47, E_X12_judge_50, E_X12_judge_51, E_X12_judge_52, E_X12_judge_53, E_X12_judge_54, E_X12_judge_55, E_X12_judge_56, E_X12_judge_59, E_X12_judge_61, E_X12_judge_62, E_X12_judge_63, E_X12_judge_64, E_X12_judge_65, E_X12_judge_68, E_X12_judge_70, E_X12_judge_71, E_X12_judge_72, E_X12_judge_73, E_X12_judge_74, E_X12_judge_75, E_X12_judge_76, E_X12_judge_77, E_X12_judge_78, E_X12_judge_81, E_X12_judge_82, E_X12_judge_83, E_X12_judge_84, E_X12_judge_85, E_X12_judge_88, E_X12_judge_89, E_X12_judge_90, E_X12_judge_93, E_X12_judge_96, E_X12_judge_98, rc_137, mit, b1, gb_0, List.map_nil, List.map_cons, List.sum_cons, List.sum_nil, gcat_i, gcat_r, gcat_l, Nat.reduceAdd, Nat.reduceLeDiff, Nat.zero_le, Option.toList, List.cons_append, List.nil_append, gnk_i, gnk_r, gnk_n, gi_1, Nat.reduceLT, if_true, if_false]
  | true =>
    obtain ⟨t, ht, e1⟩ := gB_in_ex (k := 5) b1 (by decide)
    have ht6 : t < 6 := by omega
    subst e1
    have i1 : vp_in (nI t) 6 := vp_in_nI (by omega) (by omega)
    have i2 : (nI t).toNatClampNeg = t := nI_clamp (by omega)
    have q1 := gm_ri_rok (tp_ri (s := s) ht6)
    have q2 := gm_ri_rr (tp_ri (s := s) ht6)
    rw [i2] at q2
    obtain ⟨so, n, r1, r2, r3, r4, r5, r6, r7⟩ := gI_t1 h t ht6
    obtain ⟨jo, hj⟩ : ∃ jo : Option Nat, gJo y jo := by
      by_cases hy : y < 0
      · exact ⟨none, hy⟩
      · obtain ⟨j, h1, h2⟩ := nI_of hy
        exact ⟨some j, h2, h1⟩
    by_cases hs : so ≤ 0
    · have hso : so < 0 → n = 0 := by
        intro hn
        rcases r6 with ⟨-, en⟩ | ⟨k, hk, es⟩
        · exact en
        · rw [es] at hn
          exact absurd hn (nI_pos (by omega))
      have cj := fun (Q : Option Value → gc_M → Prop) => c_judge_loop (w := w) (d := 40) (x := nI t) (Q := Q) ht6 (gI_R h) (gI_ok h) r3 r5 hj p.1.2.2 0 (by omega)
      have mj := fun (Q : Option Value → gc_M → Prop) => m_judge_loop (w := w) (d := 40) (Q := Q) ht6 (gI_mR h) (gI_ok h) r2 hso r4 r5 r7 hj p.1.2.2 0 (by omega)
      rw [nI_0] at cj mj
      refine i_no h0 (gJ (s.2.2 (53 + 2 * t)) p n jo p.1.2.2 0) (fun Q => ?_) (fun Q => ?_)
      · by_cases hm : so = -1
        · simp only [E_X11_judge_0, E_X11_judge_1, E_X11_judge_2, E_X11_judge_5, E_X11_judge_8, E_X11_judge_9, E_X11_judge_10, E_X11_judge_11, E_X11_judge_14, E_X11_judge_15, E_X11_judge_16, E_X11_judge_17, E_X11_judge_18, E_X11_judge_21, E_X11_judge_22, E_X11_judge_25, E_X11_judge_26, E_X11_judge_29, E_X11_judge_32, E_X11_judge_34, E_X11_judge_35, E_X11_judge_36, E_X11_judge_40, E_X11_judge_41, E_X11_judge_44, E_X11_judge_47, E_X11_judge_50, E_X11_judge_51, E_X11_judge_54, E_X11_judge_55, E_X11_judge_56, E_X11_judge_59, E_X11_judge_61, E_X11_judge_62, E_X11_judge_65, E_X11_judge_67, E_X11_judge_69, E_X11_judge_70, E_X11_judge_71, E_X11_judge_72, E_X11_judge_75, E_X11_judge_76, E_X11_judge_78, E_X11_judge_79, E_X11_judge_80, E_X11_judge_81, E_X11_judge_84, E_X11_judge_87, E_X11_judge_89, E_X11_judge_90, E_X11_judge_91, E_X11_judge_92, E_X11_judge_95, E_X11_judge_97, E_X11_judge_98, E_X11_judge_101, E_X11_judge_104, E_X11_judge_106, rk_0, rg_0_16, tk_ok ht6, tg_0 ht6, r1, hm, q1, q2, i2, cj, hw, b1, gb_1, g1_0, List.map_nil, List.map_cons, List.sum_cons, List.sum_nil, gcat_i, gcat_r, gcat_l, Nat.reduceAdd, Nat.reduceLeDiff, Nat.zero_le, Option.toList, List.cons_append, List.nil_append, gnk_i, gnk_r, gnk_n, gi_1, Nat.reduceLT, if_true, if_false]
        · have hz : so = 0 := by
            rcases r6 with ⟨es, -⟩ | ⟨k, hk, es⟩
            · exact absurd es hm
            · rw [es] at hs
              have : ¬ 0 < k := fun q => nI_nle q (by omega) hs
              rw [es, show k = 0 by omega]
              rfl
          have e01 : ((0 : Int32) = -1) = False := eq_false (by decide)
          simp only [E_X11_judge_0, E_X11_judge_1, E_X11_judge_2, E_X11_judge_5, E_X11_judge_8, E_X11_judge_9, E_X11_judge_10, E_X11_judge_11, E_X11_judge_14, E_X11_judge_15, E_X11_judge_16, E_X11_judge_17, E_X11_judge_18, E_X11_judge_21, E_X11_judge_22, E_X11_judge_25, E_X11_judge_26, E_X11_judge_29, E_X11_judge_32, E_X11_judge_34, E_X11_judge_35, E_X11_judge_36, E_X11_judge_40, E_X11_judge_41, E_X11_judge_44, E_X11_judge_47, E_X11_judge_50, E_X11_judge_51, E_X11_judge_54, E_X11_judge_55, E_X11_judge_56, E_X11_judge_59, E_X11_judge_61, E_X11_judge_62, E_X11_judge_65, E_X11_judge_67, E_X11_judge_69, E_X11_judge_70, E_X11_judge_71, E_X11_judge_72, E_X11_judge_75, E_X11_judge_76, E_X11_judge_78, E_X11_judge_79, E_X11_judge_80, E_X11_judge_81, E_X11_judge_84, E_X11_judge_87, E_X11_judge_89, E_X11_judge_90, E_X11_judge_91, E_X11_judge_92, E_X11_judge_95, E_X11_judge_97, E_X11_judge_98, E_X11_judge_101, E_X11_judge_104, E_X11_judge_106, rk_0, rg_0_16, tk_ok ht6, tg_0 ht6, r1, hz, e01, q1, q2, i2, cj, hw, b1, gb_1, g1_0, List.map_nil, List.map_cons, List.sum_cons, List.sum_nil, gcat_i, gcat_r, gcat_l, Nat.reduceAdd, Nat.reduceLeDiff, Nat.zero_le, Option.toList, List.cons_append, List.nil_append, gnk_i, gnk_r, gnk_n, gi_1, Nat.reduceLT, if_true, if_false]
      · simp only [E_X12_judge_0, E_X12_judge_1, E_X12_judge_2, E_X12_judge_5, E_X12_judge_8, E_X12_judge_9, E_X12_judge_10, E_X12_judge_11, E_X12_judge_14, E_X12_judge_15, E_X12_judge_16, E_X12_judge_19, E_X12_judge_21, E_X12_judge_22, E_X12_judge_23, E_X12_judge_25, E_X12_judge_26, E_X12_judge_29, E_X12_judge_32, E_X12_judge_33, E_X12_judge_36, E_X12_judge_37, E_X12_judge_38, E_X12_judge_41, E_X12_judge_42, E_X12_judge_45, E_X12_judge_46, E_X12_judge_47, E_X12_judge_50, E_X12_judge_51, E_X12_judge_52, E_X12_judge_53, E_X12_judge_54, E_X12_judge_55, E_X12_judge_56, E_X12_judge_59, E_X12_judge_61, E_X12_judge_62, E_X12_judge_63, E_X12_judge_64, E_X12_judge_65, E_X12_judge_68, E_X12_judge_70, E_X12_judge_71, E_X12_judge_72, E_X12_judge_73, E_X12_judge_74, E_X12_judge_75, E_X12_judge_76, E_X12_judge_77, E_X12_judge_78, E_X12_judge_81, E_X12_judge_82, E_X12_judge_83, E_X12_judge_84, E_X12_judge_85, E_X12_judge_88, E_X12_judge_89, E_X12_judge_90, E_X12_judge_93, E_X12_judge_96, E_X12_judge_98, rk_137, rc_137, rg_137_75, ra_188, rv_188, i1, i2, r2, hs, mj, mit, b1, gb_1, g1_0, List.map_nil, List.map_cons, List.sum_cons, List.sum_nil, gcat_i, gcat_r, gcat_l, Nat.reduceAdd, Nat.reduceLeDiff, Nat.zero_le, Option.toList, List.cons_append, List.nil_append, gnk_i, gnk_r, gnk_n, gi_1, Nat.reduceLT, if_true, if_false]
    · have hm : ¬ so = -1 := fun e => hs (by rw [e]; decide)
      have hz : ¬ so = 0 := fun e => hs (by rw [e]; decide)
      refine i_no h0 (-12) (fun Q => ?_) (fun Q => ?_)
      · simp only [E_X11_judge_0, E_X11_judge_1, E_X11_judge_2, E_X11_judge_5, E_X11_judge_8, E_X11_judge_9, E_X11_judge_10, E_X11_judge_11, E_X11_judge_14, E_X11_judge_15, E_X11_judge_16, E_X11_judge_17, E_X11_judge_18, E_X11_judge_21, E_X11_judge_22, E_X11_judge_25, E_X11_judge_26, E_X11_judge_29, E_X11_judge_32, E_X11_judge_34, E_X11_judge_35, E_X11_judge_36, E_X11_judge_40, E_X11_judge_41, E_X11_judge_44, E_X11_judge_47, E_X11_judge_50, E_X11_judge_51, E_X11_judge_54, E_X11_judge_55, E_X11_judge_56, E_X11_judge_59, E_X11_judge_61, E_X11_judge_62, E_X11_judge_65, E_X11_judge_67, E_X11_judge_69, E_X11_judge_70, E_X11_judge_71, E_X11_judge_72, E_X11_judge_75, E_X11_judge_76, E_X11_judge_78, E_X11_judge_79, E_X11_judge_80, E_X11_judge_81, E_X11_judge_84, E_X11_judge_87, E_X11_judge_89, E_X11_judge_90, E_X11_judge_91, E_X11_judge_92, E_X11_judge_95, E_X11_judge_97, E_X11_judge_98, E_X11_judge_101, E_X11_judge_104, E_X11_judge_106, rk_0, rg_0_16, tk_ok ht6, tg_0 ht6, r1, hm, hz, q1, q2, i2, hw, b1, gb_1, g1_0, List.map_nil, List.map_cons, List.sum_cons, List.sum_nil, gcat_i, gcat_r, gcat_l, Nat.reduceAdd, Nat.reduceLeDiff, Nat.zero_le, Option.toList, List.cons_append, List.nil_append, gnk_i, gnk_r, gnk_n, gi_1, Nat.reduceLT, if_true, if_false]
      · simp only [E_X12_judge_0, E_X12_judge_1, E_X12_judge_2, E_X12_judge_5, E_X12_judge_8, E_X12_judge_9, E_X12_judge_10, E_X12_judge_11, E_X12_judge_14, E_X12_judge_15, E_X12_judge_16, E_X12_judge_19, E_X12_judge_21, E_X12_judge_22, E_X12_judge_23, E_X12_judge_25, E_X12_judge_26, E_X12_judge_29, E_X12_judge_32, E_X12_judge_33, E_X12_judge_36, E_X12_judge_37, E_X12_judge_38, E_X12_judge_41, E_X12_judge_42, E_X12_judge_45, E_X12_judge_46, E_X12_judge_47, E_X12_judge_50, E_X12_judge_51, E_X12_judge_52, E_X12_judge_53, E_X12_judge_54, E_X12_judge_55, E_X12_judge_56, E_X12_judge_59, E_X12_judge_61, E_X12_judge_62, E_X12_judge_63, E_X12_judge_64, E_X12_judge_65, E_X12_judge_68, E_X12_judge_70, E_X12_judge_71, E_X12_judge_72, E_X12_judge_73, E_X12_judge_74, E_X12_judge_75, E_X12_judge_76, E_X12_judge_77, E_X12_judge_78, E_X12_judge_81, E_X12_judge_82, E_X12_judge_83, E_X12_judge_84, E_X12_judge_85, E_X12_judge_88, E_X12_judge_89, E_X12_judge_90, E_X12_judge_93, E_X12_judge_96, E_X12_judge_98, rk_137, rc_137, rg_137_75, ra_188, rv_188, i1, i2, r2, hs, mit, b1, gb_1, g1_0, List.map_nil, List.map_cons, List.sum_cons, List.sum_nil, gcat_i, gcat_r, gcat_l, Nat.reduceAdd, Nat.reduceLeDiff, Nat.zero_le, Option.toList, List.cons_append, List.nil_append, gnk_i, gnk_r, gnk_n, gi_1, Nat.reduceLT, if_true, if_false]
end
