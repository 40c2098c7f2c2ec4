/-! rows told by hand -/
theorem e_len : ∀ n, n < 100 → Int32.ofNat n = nI n := fun _ _ => rfl
section
variable {w : Nat × (Nat → Int32)} {d : Nat} {s : gm_S} {Q : Option Value → gc_M → Prop} {x y z : Int32}
theorem c_add1 {n : Nat} (hn : s.1 1 3 = nI n) (h : n < 5) : gc_X w d 34 0 [some (.ref 1), some (.int x), some (.int y), some (.int z)] [] (gm_m s) Q = Q (some (.int (nI (n + 1)))) (gm_m (gm_si (gm_si (gm_si (gm_si s 2 n x) 3 n y) 4 n z) 1 3 (nI (n + 1)))) := by
  have i1 : vp_in (nI n) 5 := vp_in_nI (by omega) (by omega)
  have i2 : (nI n).toNatClampNeg = n := nI_clamp (by omega)
  have g1 : gm_ln (gm_m s) 2 = 5 := Eq.trans rfl rfl
  have g2 : gm_len (gm_m s) 2 5 := gm_m_len (by decide) rfl (by decide)
  have hl : nI n < Int32.ofNat 5 := nI_lt (b := 5) h (by omega)
  have hs : nI n + 1 = nI (n + 1) := nI_1 n
  simp only [E_X5_add_0, E_X5_add_1, E_X5_add_4, E_X5_add_5, E_X5_add_8, E_X5_add_9, E_X5_add_12, E_X5_add_14, E_X5_add_15, E_X5_add_16, E_X5_add_19, E_X5_add_20, E_X5_add_23, E_X5_add_24, E_X5_add_25, E_X5_add_26, E_X5_add_29, E_X5_add_30, E_X5_add_33, E_X5_add_34, E_X5_add_35, E_X5_add_36, E_X5_add_39, E_X5_add_40, E_X5_add_43, E_X5_add_44, E_X5_add_45, E_X5_add_46, E_X5_add_47, E_X5_add_50, E_X5_add_51, E_X5_add_52, E_X5_add_55, E_X5_add_56, E_X5_add_59, rk_1, rg_1_0, rg_1_1, rg_1_2, rg_1_3, rp_1_3, g1, g2, hn, hl, hs, ra_2, rs_2, ra_3, rs_3, ra_4, rs_4, i1, i2, gsi_1, Nat.reduceEqDiff, false_and, and_self, gnk_i, gnk_r, gnk_n, gi_1, Nat.reduceLT, if_true, if_false]
theorem c_full1 (hn : s.1 1 3 = nI 5) : gc_X w d 34 0 [some (.ref 1), some (.int x), some (.int y), some (.int z)] [] (gm_m s) Q = Q (some (.int (-4))) (gm_m s) := by
  have g1 : gm_ln (gm_m s) 2 = 5 := Eq.trans rfl rfl
  have g2 : gm_len (gm_m s) 2 5 := gm_m_len (by decide) rfl (by decide)
  have hl : ¬ nI 5 < Int32.ofNat 5 := by decide
  simp only [E_X5_add_0, E_X5_add_1, E_X5_add_4, E_X5_add_5, E_X5_add_8, E_X5_add_9, E_X5_add_12, E_X5_add_14, E_X5_add_15, E_X5_add_16, E_X5_add_19, E_X5_add_20, E_X5_add_23, E_X5_add_24, E_X5_add_25, E_X5_add_26, E_X5_add_29, E_X5_add_30, E_X5_add_33, E_X5_add_34, E_X5_add_35, E_X5_add_36, E_X5_add_39, E_X5_add_40, E_X5_add_43, E_X5_add_44, E_X5_add_45, E_X5_add_46, E_X5_add_47, E_X5_add_50, E_X5_add_51, E_X5_add_52, E_X5_add_55, E_X5_add_56, E_X5_add_59, rk_1, rg_1_0, rg_1_3, g1, g2, hn, hl, gnk_i, gnk_r, gnk_n, gi_1, Nat.reduceLT, if_true, if_false]
theorem c_clear1 : gc_X w d 35 0 [some (.ref 1)] [] (gm_m s) Q = Q (some (.int 0)) (gm_m (gm_si s 1 3 0)) := by
  simp only [E_X5_clear_0, E_X5_clear_1, E_X5_clear_2, E_X5_clear_5, E_X5_clear_6, E_X5_clear_9, rk_1, rg_1_3, rp_1_3, gsi_1, and_self, gnk_i, gnk_r, gnk_n, gi_1, Nat.reduceLT, if_true, if_false]
theorem c_add9 {n : Nat} (hn : s.1 9 3 = nI n) (h : n < 10) : gc_X w d 34 0 [some (.ref 9), some (.int x), some (.int y), some (.int z)] [] (gm_m s) Q = Q (some (.int (nI (n + 1)))) (gm_m (gm_si (gm_si (gm_si (gm_si s 10 n x) 11 n y) 12 n z) 9 3 (nI (n + 1)))) := by
  have i1 : vp_in (nI n) 10 := vp_in_nI (by omega) (by omega)
  have i2 : (nI n).toNatClampNeg = n := nI_clamp (by omega)
  have g1 : gm_ln (gm_m s) 10 = 10 := Eq.trans rfl rfl
  have g2 : gm_len (gm_m s) 10 10 := gm_m_len (by decide) rfl (by decide)
  have hl : nI n < Int32.ofNat 10 := nI_lt (b := 10) h (by omega)
  have hs : nI n + 1 = nI (n + 1) := nI_1 n
  simp only [E_X5_add_0, E_X5_add_1, E_X5_add_4, E_X5_add_5, E_X5_add_8, E_X5_add_9, E_X5_add_12, E_X5_add_14, E_X5_add_15, E_X5_add_16, E_X5_add_19, E_X5_add_20, E_X5_add_23, E_X5_add_24, E_X5_add_25, E_X5_add_26, E_X5_add_29, E_X5_add_30, E_X5_add_33, E_X5_add_34, E_X5_add_35, E_X5_add_36, E_X5_add_39, E_X5_add_40, E_X5_add_43, E_X5_add_44, E_X5_add_45, E_X5_add_46, E_X5_add_47, E_X5_add_50, E_X5_add_51, E_X5_add_52, E_X5_add_55, E_X5_add_56, E_X5_add_59, rk_9, rg_9_0, rg_9_1, rg_9_2, rg_9_3, rp_9_3, g1, g2, hn, hl, hs, ra_10, rs_10, ra_11, rs_11, ra_12, rs_12, i1, i2, gsi_1, Nat.reduceEqDiff, false_and, and_self, gnk_i, gnk_r, gnk_n, gi_1, Nat.reduceLT, if_true, if_false]
theorem c_full9 (hn : s.1 9 3 = nI 10) : gc_X w d 34 0 [some (.ref 9), some (.int x), some (.int y), some (.int z)] [] (gm_m s) Q = Q (some (.int (-4))) (gm_m s) := by
  have g1 : gm_ln (gm_m s) 10 = 10 := Eq.trans rfl rfl
  have g2 : gm_len (gm_m s) 10 10 := gm_m_len (by decide) rfl (by decide)
  have hl : ¬ nI 10 < Int32.ofNat 10 := by decide
  simp only [E_X5_add_0, E_X5_add_1, E_X5_add_4, E_X5_add_5, E_X5_add_8, E_X5_add_9, E_X5_add_12, E_X5_add_14, E_X5_add_15, E_X5_add_16, E_X5_add_19, E_X5_add_20, E_X5_add_23, E_X5_add_24, E_X5_add_25, E_X5_add_26, E_X5_add_29, E_X5_add_30, E_X5_add_33, E_X5_add_34, E_X5_add_35, E_X5_add_36, E_X5_add_39, E_X5_add_40, E_X5_add_43, E_X5_add_44, E_X5_add_45, E_X5_add_46, E_X5_add_47, E_X5_add_50, E_X5_add_51, E_X5_add_52, E_X5_add_55, E_X5_add_56, E_X5_add_59, rk_9, rg_9_0, rg_9_3, g1, g2, hn, hl, gnk_i, gnk_r, gnk_n, gi_1, Nat.reduceLT, if_true, if_false]
theorem c_clear9 : gc_X w d 35 0 [some (.ref 9)] [] (gm_m s) Q = Q (some (.int 0)) (gm_m (gm_si s 9 3 0)) := by
  simp only [E_X5_clear_0, E_X5_clear_1, E_X5_clear_2, E_X5_clear_5, E_X5_clear_6, E_X5_clear_9, rk_9, rg_9_3, rp_9_3, gsi_1, and_self, gnk_i, gnk_r, gnk_n, gi_1, Nat.reduceLT, if_true, if_false]
theorem c_add17 {n : Nat} (hn : s.1 17 3 = nI n) (h : n < 8) : gc_X w d 34 0 [some (.ref 17), some (.int x), some (.int y), some (.int z)] [] (gm_m s) Q = Q (some (.int (nI (n + 1)))) (gm_m (gm_si (gm_si (gm_si (gm_si s 18 n x) 19 n y) 20 n z) 17 3 (nI (n + 1)))) := by
  have i1 : vp_in (nI n) 8 := vp_in_nI (by omega) (by omega)
  have i2 : (nI n).toNatClampNeg = n := nI_clamp (by omega)
  have g1 : gm_ln (gm_m s) 18 = 8 := Eq.trans rfl rfl
  have g2 : gm_len (gm_m s) 18 8 := gm_m_len (by decide) rfl (by decide)
  have hl : nI n < Int32.ofNat 8 := nI_lt (b := 8) h (by omega)
  have hs : nI n + 1 = nI (n + 1) := nI_1 n
  simp only [E_X5_add_0, E_X5_add_1, E_X5_add_4, E_X5_add_5, E_X5_add_8, E_X5_add_9, E_X5_add_12, E_X5_add_14, E_X5_add_15, E_X5_add_16, E_X5_add_19, E_X5_add_20, E_X5_add_23, E_X5_add_24, E_X5_add_25, E_X5_add_26, E_X5_add_29, E_X5_add_30, E_X5_add_33, E_X5_add_34, E_X5_add_35, E_X5_add_36, E_X5_add_39, E_X5_add_40, E_X5_add_43, E_X5_add_44, E_X5_add_45, E_X5_add_46, E_X5_add_47, E_X5_add_50, E_X5_add_51, E_X5_add_52, E_X5_add_55, E_X5_add_56, E_X5_add_59, rk_17, rg_17_0, rg_17_1, rg_17_2, rg_17_3, rp_17_3, g1, g2, hn, hl, hs, ra_18, rs_18, ra_19, rs_19, ra_20, rs_20, i1, i2, gsi_1, Nat.reduceEqDiff, false_and, and_self, gnk_i, gnk_r, gnk_n, gi_1, Nat.reduceLT, if_true, if_false]
theorem c_full17 (hn : s.1 17 3 = nI 8) : gc_X w d 34 0 [some (.ref 17), some (.int x), some (.int y), some (.int z)] [] (gm_m s) Q = Q (some (.int (-4))) (gm_m s) := by
  have g1 : gm_ln (gm_m s) 18 = 8 := Eq.trans rfl rfl
  have g2 : gm_len (gm_m s) 18 8 := gm_m_len (by decide) rfl (by decide)
  have hl : ¬ nI 8 < Int32.ofNat 8 := by decide
  simp only [E_X5_add_0, E_X5_add_1, E_X5_add_4, E_X5_add_5, E_X5_add_8, E_X5_add_9, E_X5_add_12, E_X5_add_14, E_X5_add_15, E_X5_add_16, E_X5_add_19, E_X5_add_20, E_X5_add_23, E_X5_add_24, E_X5_add_25, E_X5_add_26, E_X5_add_29, E_X5_add_30, E_X5_add_33, E_X5_add_34, E_X5_add_35, E_X5_add_36, E_X5_add_39, E_X5_add_40, E_X5_add_43, E_X5_add_44, E_X5_add_45, E_X5_add_46, E_X5_add_47, E_X5_add_50, E_X5_add_51, E_X5_add_52, E_X5_add_55, E_X5_add_56, E_X5_add_59, rk_17, rg_17_0, rg_17_3, g1, g2, hn, hl, gnk_i, gnk_r, gnk_n, gi_1, Nat.reduceLT, if_true, if_false]
theorem c_clear17 : gc_X w d 35 0 [some (.ref 17)] [] (gm_m s) Q = Q (some (.int 0)) (gm_m (gm_si s 17 3 0)) := by
  simp only [E_X5_clear_0, E_X5_clear_1, E_X5_clear_2, E_X5_clear_5, E_X5_clear_6, E_X5_clear_9, rk_17, rg_17_3, rp_17_3, gsi_1, and_self, gnk_i, gnk_r, gnk_n, gi_1, Nat.reduceLT, if_true, if_false]
end
