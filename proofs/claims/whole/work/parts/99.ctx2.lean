/-! FIRM, the class: what reads E, T, F, by what reads its parts -/
section
variable {w : Nat × (Nat → Int32)} {d f n a a1 a2 k dm : Nat} {b : Nat → Nat} {s : gm_S} {ts u u1 u2 : List fT} {Q : Option Value → gc_M → Prop}
theorem c_t_ok (h1 : cOk w f n b 15 0 dm [some (.ref f), some (.int (nI k)), none] a a1 u1) (h2 : ∀ i, i ≤ a1 → cOk w f n b 14 12 (dm + 1) [some (.ref f), some (.int (nI k)), some (.int (nI i))] a1 a2 u2) : cOk w f n b 14 0 (dm + 1) [some (.ref f), some (.int (nI k)), none] a a2 (u1 ++ u2) := by
  intro d s ts Q hd hB hA hQ
  obtain ⟨d, rfl⟩ : ∃ e, d = e + 1 := ⟨d - 1, by omega⟩
  have hf := hB.1
  have hl := h2 0 (Nat.zero_le _)
  rw [nI_0] at hl
  simp only [E_X1_both_0, E_X1_both_1, E_X1_both_2, E_X1_both_5, E_X1_both_8, E_X1_both_9, E_X1_both_10, E_X1_both_11, E_X1_both_13, E_X1_both_14, E_X1_both_17, E_X1_both_20, E_X1_both_21, E_X1_both_24, E_X1_both_26, E_X1_both_29, E_X1_both_30, E_X1_both_31, E_X1_both_34, E_X1_both_35, E_X1_both_36, E_X1_both_39, E_X1_both_40, E_X1_both_41, E_X1_both_44, E_X1_both_47, E_X1_both_48, E_X1_both_49, E_X1_both_50, E_X1_both_51, E_X1_both_52, E_X1_both_53, E_X1_both_56, E_X1_both_59, E_X1_both_62, E_X1_both_63, gF_cl hf, List.map_nil, List.map_cons, List.sum_cons, List.sum_nil, gcat_i, gcat_r, gcat_l, Nat.reduceAdd, Nat.reduceLeDiff, Nat.zero_le, Option.toList, List.cons_append, List.nil_append, gnk_i, gnk_r, gnk_n, gi_1, Nat.reduceLT, if_true, if_false]
  refine h1 d s ts _ (by omega) hB hA (fun s1 hF1 hA1 => ?_)
  simp only [E_X1_both_0, E_X1_both_1, E_X1_both_2, E_X1_both_5, E_X1_both_8, E_X1_both_9, E_X1_both_10, E_X1_both_11, E_X1_both_13, E_X1_both_14, E_X1_both_17, E_X1_both_20, E_X1_both_21, E_X1_both_24, E_X1_both_26, E_X1_both_29, E_X1_both_30, E_X1_both_31, E_X1_both_34, E_X1_both_35, E_X1_both_36, E_X1_both_39, E_X1_both_40, E_X1_both_41, E_X1_both_44, E_X1_both_47, E_X1_both_48, E_X1_both_49, E_X1_both_50, E_X1_both_51, E_X1_both_52, E_X1_both_53, E_X1_both_56, E_X1_both_59, E_X1_both_62, E_X1_both_63, g1_0, List.map_nil, List.map_cons, List.sum_cons, List.sum_nil, gcat_i, gcat_r, gcat_l, Nat.reduceAdd, Nat.reduceLeDiff, Nat.zero_le, Option.toList, List.cons_append, List.nil_append, gnk_i, gnk_r, gnk_n, gi_1, Nat.reduceLT, if_true, if_false]
  exact hl (d + 1) s1 (ts ++ u1) Q (by omega) (cB_F hB hF1) hA1 (fun s2 hF2 hA2 => hQ s2 (cF_trans hF1 hF2) (by rw [← List.append_assoc]; exact hA2))
theorem c_t_no1 (h1 : cNo w f n b 15 0 dm [some (.ref f), some (.int (nI k)), none] a a1) : cNo w f n b 14 0 (dm + 1) [some (.ref f), some (.int (nI k)), none] a a1 := by
  intro d s ts Q hd hB hA hQ
  obtain ⟨d, rfl⟩ : ∃ e, d = e + 1 := ⟨d - 1, by omega⟩
  have hf := hB.1
  simp only [E_X1_both_0, E_X1_both_1, E_X1_both_2, E_X1_both_5, E_X1_both_8, E_X1_both_9, E_X1_both_10, E_X1_both_11, E_X1_both_13, E_X1_both_14, E_X1_both_17, E_X1_both_20, E_X1_both_21, E_X1_both_24, E_X1_both_26, E_X1_both_29, E_X1_both_30, E_X1_both_31, E_X1_both_34, E_X1_both_35, E_X1_both_36, E_X1_both_39, E_X1_both_40, E_X1_both_41, E_X1_both_44, E_X1_both_47, E_X1_both_48, E_X1_both_49, E_X1_both_50, E_X1_both_51, E_X1_both_52, E_X1_both_53, E_X1_both_56, E_X1_both_59, E_X1_both_62, E_X1_both_63, gF_cl hf, List.map_nil, List.map_cons, List.sum_cons, List.sum_nil, gcat_i, gcat_r, gcat_l, Nat.reduceAdd, Nat.reduceLeDiff, Nat.zero_le, Option.toList, List.cons_append, List.nil_append, gnk_i, gnk_r, gnk_n, gi_1, Nat.reduceLT, if_true, if_false]
  refine h1 d s ts _ (by omega) hB hA (fun s1 hF1 hA1 => ?_)
  simp only [E_X1_both_0, E_X1_both_1, E_X1_both_2, E_X1_both_5, E_X1_both_8, E_X1_both_9, E_X1_both_10, E_X1_both_11, E_X1_both_13, E_X1_both_14, E_X1_both_17, E_X1_both_20, E_X1_both_21, E_X1_both_24, E_X1_both_26, E_X1_both_29, E_X1_both_30, E_X1_both_31, E_X1_both_34, E_X1_both_35, E_X1_both_36, E_X1_both_39, E_X1_both_40, E_X1_both_41, E_X1_both_44, E_X1_both_47, E_X1_both_48, E_X1_both_49, E_X1_both_50, E_X1_both_51, E_X1_both_52, E_X1_both_53, E_X1_both_56, E_X1_both_59, E_X1_both_62, E_X1_both_63, gb_n0, List.map_nil, List.map_cons, List.sum_cons, List.sum_nil, gcat_i, gcat_r, gcat_l, Nat.reduceAdd, Nat.reduceLeDiff, Nat.zero_le, Option.toList, List.cons_append, List.nil_append, gnk_i, gnk_r, gnk_n, gi_1, Nat.reduceLT, if_true, if_false]
  exact hQ s1 hF1 hA1
theorem c_t_no2 (h1 : cOk w f n b 15 0 dm [some (.ref f), some (.int (nI k)), none] a a1 u1) (h2 : ∀ i, i ≤ a1 → cNo w f n b 14 12 (dm + 1) [some (.ref f), some (.int (nI k)), some (.int (nI i))] a1 a2) : cNo w f n b 14 0 (dm + 1) [some (.ref f), some (.int (nI k)), none] a a2 := by
  intro d s ts Q hd hB hA hQ
  obtain ⟨d, rfl⟩ : ∃ e, d = e + 1 := ⟨d - 1, by omega⟩
  have hf := hB.1
  have hl := h2 0 (Nat.zero_le _)
  rw [nI_0] at hl
  simp only [E_X1_both_0, E_X1_both_1, E_X1_both_2, E_X1_both_5, E_X1_both_8, E_X1_both_9, E_X1_both_10, E_X1_both_11, E_X1_both_13, E_X1_both_14, E_X1_both_17, E_X1_both_20, E_X1_both_21, E_X1_both_24, E_X1_both_26, E_X1_both_29, E_X1_both_30, E_X1_both_31, E_X1_both_34, E_X1_both_35, E_X1_both_36, E_X1_both_39, E_X1_both_40, E_X1_both_41, E_X1_both_44, E_X1_both_47, E_X1_both_48, E_X1_both_49, E_X1_both_50, E_X1_both_51, E_X1_both_52, E_X1_both_53, E_X1_both_56, E_X1_both_59, E_X1_both_62, E_X1_both_63, gF_cl hf, List.map_nil, List.map_cons, List.sum_cons, List.sum_nil, gcat_i, gcat_r, gcat_l, Nat.reduceAdd, Nat.reduceLeDiff, Nat.zero_le, Option.toList, List.cons_append, List.nil_append, gnk_i, gnk_r, gnk_n, gi_1, Nat.reduceLT, if_true, if_false]
  refine h1 d s ts _ (by omega) hB hA (fun s1 hF1 hA1 => ?_)
  simp only [E_X1_both_0, E_X1_both_1, E_X1_both_2, E_X1_both_5, E_X1_both_8, E_X1_both_9, E_X1_both_10, E_X1_both_11, E_X1_both_13, E_X1_both_14, E_X1_both_17, E_X1_both_20, E_X1_both_21, E_X1_both_24, E_X1_both_26, E_X1_both_29, E_X1_both_30, E_X1_both_31, E_X1_both_34, E_X1_both_35, E_X1_both_36, E_X1_both_39, E_X1_both_40, E_X1_both_41, E_X1_both_44, E_X1_both_47, E_X1_both_48, E_X1_both_49, E_X1_both_50, E_X1_both_51, E_X1_both_52, E_X1_both_53, E_X1_both_56, E_X1_both_59, E_X1_both_62, E_X1_both_63, g1_0, List.map_nil, List.map_cons, List.sum_cons, List.sum_nil, gcat_i, gcat_r, gcat_l, Nat.reduceAdd, Nat.reduceLeDiff, Nat.zero_le, Option.toList, List.cons_append, List.nil_append, gnk_i, gnk_r, gnk_n, gi_1, Nat.reduceLT, if_true, if_false]
  exact hl (d + 1) s1 (ts ++ u1) Q (by omega) (cB_F hB hF1) hA1 (fun s2 hF2 hA2 => hQ s2 (cF_trans hF1 hF2) hA2)
theorem c_tl_stop {i : Nat} (h : xt n b a ≠ 38) (hi : i ≤ a) : cOk w f n b 14 12 (dm + 1) [some (.ref f), some (.int (nI k)), some (.int (nI i))] a a [] := by
  intro d s ts Q hd hB hA hQ
  obtain ⟨d, rfl⟩ : ∃ e, d = e + 1 := ⟨d - 1, by omega⟩
  have hf := hB.1
  have h100 := hB.2.1
  have hn := hA.2.1
  have h7 := hB.2.2.2.1
  have e : (xn n b a = 38) = (xt n b a = 38) := xn_eq (c := 38) hB.2.2.2.2.1 (by decide) (by decide)
  have hQ := hQ s cF_refl (by rw [List.append_nil]; exact hA)
  rw [E_X1_both_12]
  by_cases h1 : i < n
  · have e1 : ¬ nI n ≤ nI i := nI_ge h1 (by omega)
    simp only [E_X1_both_0, E_X1_both_1, E_X1_both_2, E_X1_both_5, E_X1_both_8, E_X1_both_9, E_X1_both_10, E_X1_both_11, E_X1_both_13, E_X1_both_14, E_X1_both_17, E_X1_both_20, E_X1_both_21, E_X1_both_24, E_X1_both_26, E_X1_both_29, E_X1_both_30, E_X1_both_31, E_X1_both_34, E_X1_both_35, E_X1_both_36, E_X1_both_39, E_X1_both_40, E_X1_both_41, E_X1_both_44, E_X1_both_47, E_X1_both_48, E_X1_both_49, E_X1_both_50, E_X1_both_51, E_X1_both_52, E_X1_both_53, E_X1_both_56, E_X1_both_59, E_X1_both_62, E_X1_both_63, gF_cl hf, gF_gok hf, Fg_7 hf, h7, e1, c_next hB hA.1 hA.2.1, e, h, gb_n1, List.map_nil, List.map_cons, List.sum_cons, List.sum_nil, gcat_i, gcat_r, gcat_l, Nat.reduceAdd, Nat.reduceLeDiff, Nat.zero_le, Option.toList, List.cons_append, List.nil_append, gnk_i, gnk_r, gnk_n, gi_1, Nat.reduceLT, if_true, if_false]
    exact hQ
  · have e1 : nI n ≤ nI i := nI_le (by omega) (by omega)
    simp only [E_X1_both_0, E_X1_both_1, E_X1_both_2, E_X1_both_5, E_X1_both_8, E_X1_both_9, E_X1_both_10, E_X1_both_11, E_X1_both_13, E_X1_both_14, E_X1_both_17, E_X1_both_20, E_X1_both_21, E_X1_both_24, E_X1_both_26, E_X1_both_29, E_X1_both_30, E_X1_both_31, E_X1_both_34, E_X1_both_35, E_X1_both_36, E_X1_both_39, E_X1_both_40, E_X1_both_41, E_X1_both_44, E_X1_both_47, E_X1_both_48, E_X1_both_49, E_X1_both_50, E_X1_both_51, E_X1_both_52, E_X1_both_53, E_X1_both_56, E_X1_both_59, E_X1_both_62, E_X1_both_63, gF_cl hf, gF_gok hf, Fg_7 hf, h7, e1, gb_n1, List.map_nil, List.map_cons, List.sum_cons, List.sum_nil, gcat_i, gcat_r, gcat_l, Nat.reduceAdd, Nat.reduceLeDiff, Nat.zero_le, Option.toList, List.cons_append, List.nil_append, gnk_i, gnk_r, gnk_n, gi_1, Nat.reduceLT, if_true, if_false]
    exact hQ
theorem c_tl_ok {i : Nat} (h : xt n b a = 38) (hi : i ≤ a) (hg : a + 1 + u1.length ≤ a1) (h1 : cOk w f n b 15 0 dm [some (.ref f), some (.int (nI k)), none] (a + 1) a1 u1) (h2 : ∀ i, i ≤ a1 → cOk w f n b 14 12 (dm + 1) [some (.ref f), some (.int (nI k)), some (.int (nI i))] a1 a2 u2) (hdm : 1 ≤ dm) : cOk w f n b 14 12 (dm + 1) [some (.ref f), some (.int (nI k)), some (.int (nI i))] a a2 (u1 ++ ((4, 0, 0) :: u2)) := by
  intro d s ts Q hd hB hA hQ
  obtain ⟨d, rfl⟩ : ∃ e, d = e + 1 := ⟨d - 1, by omega⟩
  have hf := hB.1
  have h100 := hB.2.1
  have ha : a < n := xt_lt (b := b) (by omega)
  have h7 := hB.2.2.2.1
  have e : (xn n b a = 38) = (xt n b a = 38) := xn_eq (c := 38) hB.2.2.2.2.1 (by decide) (by decide)
  have e1 : ¬ nI n ≤ nI i := nI_ge (by omega) (by omega)
  have hA1 : cA f n (gm_si s f 8 (nI (a + 1))) (a + 1) ts := cA_8 hA (by omega) (by omega)
  have hF1 : cF f s (gm_si s f 8 (nI (a + 1))) := cF_si (by decide)
  have hB1 := cB_F hB hF1
  have hl := h2 (i + 1) (by omega)
  rw [E_X1_both_12]
  simp only [E_X1_both_0, E_X1_both_1, E_X1_both_2, E_X1_both_5, E_X1_both_8, E_X1_both_9, E_X1_both_10, E_X1_both_11, E_X1_both_13, E_X1_both_14, E_X1_both_17, E_X1_both_20, E_X1_both_21, E_X1_both_24, E_X1_both_26, E_X1_both_29, E_X1_both_30, E_X1_both_31, E_X1_both_34, E_X1_both_35, E_X1_both_36, E_X1_both_39, E_X1_both_40, E_X1_both_41, E_X1_both_44, E_X1_both_47, E_X1_both_48, E_X1_both_49, E_X1_both_50, E_X1_both_51, E_X1_both_52, E_X1_both_53, E_X1_both_56, E_X1_both_59, E_X1_both_62, E_X1_both_63, gF_cl hf, gF_gok hf, Fg_7 hf, Fg_8 hf, Fp_8 hf, h7, e1, c_next hB hA.1 hA.2.1, e, h, hA.1, nI_1, List.map_nil, List.map_cons, List.sum_cons, List.sum_nil, gcat_i, gcat_r, gcat_l, Nat.reduceAdd, Nat.reduceLeDiff, Nat.zero_le, Option.toList, List.cons_append, List.nil_append, gnk_i, gnk_r, gnk_n, gi_1, Nat.reduceLT, if_true, if_false]
  refine h1 d _ ts _ (by omega) hB1 hA1 (fun s1 hF2 hA2 => ?_)
  simp only [E_X1_both_0, E_X1_both_1, E_X1_both_2, E_X1_both_5, E_X1_both_8, E_X1_both_9, E_X1_both_10, E_X1_both_11, E_X1_both_13, E_X1_both_14, E_X1_both_17, E_X1_both_20, E_X1_both_21, E_X1_both_24, E_X1_both_26, E_X1_both_29, E_X1_both_30, E_X1_both_31, E_X1_both_34, E_X1_both_35, E_X1_both_36, E_X1_both_39, E_X1_both_40, E_X1_both_41, E_X1_both_44, E_X1_both_47, E_X1_both_48, E_X1_both_49, E_X1_both_50, E_X1_both_51, E_X1_both_52, E_X1_both_53, E_X1_both_56, E_X1_both_59, E_X1_both_62, E_X1_both_63, gF_cl hf, g1_0, List.map_nil, List.map_cons, List.sum_cons, List.sum_nil, gcat_i, gcat_r, gcat_l, Nat.reduceAdd, Nat.reduceLeDiff, Nat.zero_le, Option.toList, List.cons_append, List.nil_append, gnk_i, gnk_r, gnk_n, gi_1, Nat.reduceLT, if_true, if_false]
  have hl2 := hA.2.2.1
  refine c_add hf hA2.2.2.2 (by rw [List.length_append]; have := hA2.2.1; omega) (4, 0, 0) rfl rfl rfl (fun s2 hF3 h8 hK => ?_)
  simp only [E_X1_both_0, E_X1_both_1, E_X1_both_2, E_X1_both_5, E_X1_both_8, E_X1_both_9, E_X1_both_10, E_X1_both_11, E_X1_both_13, E_X1_both_14, E_X1_both_17, E_X1_both_20, E_X1_both_21, E_X1_both_24, E_X1_both_26, E_X1_both_29, E_X1_both_30, E_X1_both_31, E_X1_both_34, E_X1_both_35, E_X1_both_36, E_X1_both_39, E_X1_both_40, E_X1_both_41, E_X1_both_44, E_X1_both_47, E_X1_both_48, E_X1_both_49, E_X1_both_50, E_X1_both_51, E_X1_both_52, E_X1_both_53, E_X1_both_56, E_X1_both_59, E_X1_both_62, E_X1_both_63, gi_1, nI_1, List.map_nil, List.map_cons, List.sum_cons, List.sum_nil, gcat_i, gcat_r, gcat_l, Nat.reduceAdd, Nat.reduceLeDiff, Nat.zero_le, Option.toList, List.cons_append, List.nil_append, gnk_i, gnk_r, gnk_n, gi_1, Nat.reduceLT, if_true, if_false]
  have hF4 := cF_trans hF1 (cF_trans hF2 hF3)
  refine hl (d + 1) s2 _ Q (by omega) (cB_F hB hF4) ⟨h8.trans hA2.1, hA2.2.1, ?_, hK⟩ (fun s3 hF5 hA3 => hQ s3 (cF_trans hF4 hF5) ?_)
  · rw [List.length_append, List.length_append]
    show ts.length + u1.length + 1 ≤ a1
    omega
  · rw [List.append_assoc, List.append_assoc] at hA3
    exact hA3
theorem c_tl_no1 {i : Nat} (h : xt n b a = 38) (hi : i ≤ a) (h1 : cNo w f n b 15 0 dm [some (.ref f), some (.int (nI k)), none] (a + 1) a1) : cNo w f n b 14 12 (dm + 1) [some (.ref f), some (.int (nI k)), some (.int (nI i))] a a1 := by
  intro d s ts Q hd hB hA hQ
  obtain ⟨d, rfl⟩ : ∃ e, d = e + 1 := ⟨d - 1, by omega⟩
  have hf := hB.1
  have h100 := hB.2.1
  have ha : a < n := xt_lt (b := b) (by omega)
  have h7 := hB.2.2.2.1
  have e : (xn n b a = 38) = (xt n b a = 38) := xn_eq (c := 38) hB.2.2.2.2.1 (by decide) (by decide)
  have e1 : ¬ nI n ≤ nI i := nI_ge (by omega) (by omega)
  have hA1 : cA f n (gm_si s f 8 (nI (a + 1))) (a + 1) ts := cA_8 hA (by omega) (by omega)
  have hF1 : cF f s (gm_si s f 8 (nI (a + 1))) := cF_si (by decide)
  have hB1 := cB_F hB hF1
  rw [E_X1_both_12]
  simp only [E_X1_both_0, E_X1_both_1, E_X1_both_2, E_X1_both_5, E_X1_both_8, E_X1_both_9, E_X1_both_10, E_X1_both_11, E_X1_both_13, E_X1_both_14, E_X1_both_17, E_X1_both_20, E_X1_both_21, E_X1_both_24, E_X1_both_26, E_X1_both_29, E_X1_both_30, E_X1_both_31, E_X1_both_34, E_X1_both_35, E_X1_both_36, E_X1_both_39, E_X1_both_40, E_X1_both_41, E_X1_both_44, E_X1_both_47, E_X1_both_48, E_X1_both_49, E_X1_both_50, E_X1_both_51, E_X1_both_52, E_X1_both_53, E_X1_both_56, E_X1_both_59, E_X1_both_62, E_X1_both_63, gF_cl hf, gF_gok hf, Fg_7 hf, Fg_8 hf, Fp_8 hf, h7, e1, c_next hB hA.1 hA.2.1, e, h, hA.1, nI_1, List.map_nil, List.map_cons, List.sum_cons, List.sum_nil, gcat_i, gcat_r, gcat_l, Nat.reduceAdd, Nat.reduceLeDiff, Nat.zero_le, Option.toList, List.cons_append, List.nil_append, gnk_i, gnk_r, gnk_n, gi_1, Nat.reduceLT, if_true, if_false]
  refine h1 d _ ts _ (by omega) hB1 hA1 (fun s1 hF2 hA2 => ?_)
  simp only [E_X1_both_0, E_X1_both_1, E_X1_both_2, E_X1_both_5, E_X1_both_8, E_X1_both_9, E_X1_both_10, E_X1_both_11, E_X1_both_13, E_X1_both_14, E_X1_both_17, E_X1_both_20, E_X1_both_21, E_X1_both_24, E_X1_both_26, E_X1_both_29, E_X1_both_30, E_X1_both_31, E_X1_both_34, E_X1_both_35, E_X1_both_36, E_X1_both_39, E_X1_both_40, E_X1_both_41, E_X1_both_44, E_X1_both_47, E_X1_both_48, E_X1_both_49, E_X1_both_50, E_X1_both_51, E_X1_both_52, E_X1_both_53, E_X1_both_56, E_X1_both_59, E_X1_both_62, E_X1_both_63, gb_n0, List.map_nil, List.map_cons, List.sum_cons, List.sum_nil, gcat_i, gcat_r, gcat_l, Nat.reduceAdd, Nat.reduceLeDiff, Nat.zero_le, Option.toList, List.cons_append, List.nil_append, gnk_i, gnk_r, gnk_n, gi_1, Nat.reduceLT, if_true, if_false]
  exact hQ s1 (cF_trans hF1 hF2) hA2
theorem c_tl_no2 {i : Nat} (h : xt n b a = 38) (hi : i ≤ a) (hg : a + 1 + u1.length ≤ a1) (h1 : cOk w f n b 15 0 dm [some (.ref f), some (.int (nI k)), none] (a + 1) a1 u1) (h2 : ∀ i, i ≤ a1 → cNo w f n b 14 12 (dm + 1) [some (.ref f), some (.int (nI k)), some (.int (nI i))] a1 a2) (hdm : 1 ≤ dm) : cNo w f n b 14 12 (dm + 1) [some (.ref f), some (.int (nI k)), some (.int (nI i))] a a2 := by
  intro d s ts Q hd hB hA hQ
  obtain ⟨d, rfl⟩ : ∃ e, d = e + 1 := ⟨d - 1, by omega⟩
  have hf := hB.1
  have h100 := hB.2.1
  have ha : a < n := xt_lt (b := b) (by omega)
  have h7 := hB.2.2.2.1
  have e : (xn n b a = 38) = (xt n b a = 38) := xn_eq (c := 38) hB.2.2.2.2.1 (by decide) (by decide)
  have e1 : ¬ nI n ≤ nI i := nI_ge (by omega) (by omega)
  have hA1 : cA f n (gm_si s f 8 (nI (a + 1))) (a + 1) ts := cA_8 hA (by omega) (by omega)
  have hF1 : cF f s (gm_si s f 8 (nI (a + 1))) := cF_si (by decide)
  have hB1 := cB_F hB hF1
  have hl := h2 (i + 1) (by omega)
  rw [E_X1_both_12]
  simp only [E_X1_both_0, E_X1_both_1, E_X1_both_2, E_X1_both_5, E_X1_both_8, E_X1_both_9, E_X1_both_10, E_X1_both_11, E_X1_both_13, E_X1_both_14, E_X1_both_17, E_X1_both_20, E_X1_both_21, E_X1_both_24, E_X1_both_26, E_X1_both_29, E_X1_both_30, E_X1_both_31, E_X1_both_34, E_X1_both_35, E_X1_both_36, E_X1_both_39, E_X1_both_40, E_X1_both_41, E_X1_both_44, E_X1_both_47, E_X1_both_48, E_X1_both_49, E_X1_both_50, E_X1_both_51, E_X1_both_52, E_X1_both_53, E_X1_both_56, E_X1_both_59, E_X1_both_62, E_X1_both_63, gF_cl hf, gF_gok hf, Fg_7 hf, Fg_8 hf, Fp_8 hf, h7, e1, c_next hB hA.1 hA.2.1, e, h, hA.1, nI_1, List.map_nil, List.map_cons, List.sum_cons, List.sum_nil, gcat_i, gcat_r, gcat_l, Nat.reduceAdd, Nat.reduceLeDiff, Nat.zero_le, Option.toList, List.cons_append, List.nil_append, gnk_i, gnk_r, gnk_n, gi_1, Nat.reduceLT, if_true, if_false]
  refine h1 d _ ts _ (by omega) hB1 hA1 (fun s1 hF2 hA2 => ?_)
  simp only [E_X1_both_0, E_X1_both_1, E_X1_both_2, E_X1_both_5, E_X1_both_8, E_X1_both_9, E_X1_both_10, E_X1_both_11, E_X1_both_13, E_X1_both_14, E_X1_both_17, E_X1_both_20, E_X1_both_21, E_X1_both_24, E_X1_both_26, E_X1_both_29, E_X1_both_30, E_X1_both_31, E_X1_both_34, E_X1_both_35, E_X1_both_36, E_X1_both_39, E_X1_both_40, E_X1_both_41, E_X1_both_44, E_X1_both_47, E_X1_both_48, E_X1_both_49, E_X1_both_50, E_X1_both_51, E_X1_both_52, E_X1_both_53, E_X1_both_56, E_X1_both_59, E_X1_both_62, E_X1_both_63, gF_cl hf, g1_0, List.map_nil, List.map_cons, List.sum_cons, List.sum_nil, gcat_i, gcat_r, gcat_l, Nat.reduceAdd, Nat.reduceLeDiff, Nat.zero_le, Option.toList, List.cons_append, List.nil_append, gnk_i, gnk_r, gnk_n, gi_1, Nat.reduceLT, if_true, if_false]
  have hl2 := hA.2.2.1
  refine c_add hf hA2.2.2.2 (by rw [List.length_append]; have := hA2.2.1; omega) (4, 0, 0) rfl rfl rfl (fun s2 hF3 h8 hK => ?_)
  simp only [E_X1_both_0, E_X1_both_1, E_X1_both_2, E_X1_both_5, E_X1_both_8, E_X1_both_9, E_X1_both_10, E_X1_both_11, E_X1_both_13, E_X1_both_14, E_X1_both_17, E_X1_both_20, E_X1_both_21, E_X1_both_24, E_X1_both_26, E_X1_both_29, E_X1_both_30, E_X1_both_31, E_X1_both_34, E_X1_both_35, E_X1_both_36, E_X1_both_39, E_X1_both_40, E_X1_both_41, E_X1_both_44, E_X1_both_47, E_X1_both_48, E_X1_both_49, E_X1_both_50, E_X1_both_51, E_X1_both_52, E_X1_both_53, E_X1_both_56, E_X1_both_59, E_X1_both_62, E_X1_both_63, gi_1, nI_1, List.map_nil, List.map_cons, List.sum_cons, List.sum_nil, gcat_i, gcat_r, gcat_l, Nat.reduceAdd, Nat.reduceLeDiff, Nat.zero_le, Option.toList, List.cons_append, List.nil_append, gnk_i, gnk_r, gnk_n, gi_1, Nat.reduceLT, if_true, if_false]
  have hF4 := cF_trans hF1 (cF_trans hF2 hF3)
  refine hl (d + 1) s2 _ Q (by omega) (cB_F hB hF4) ⟨h8.trans hA2.1, hA2.2.1, ?_, hK⟩ (fun s3 hF5 hA3 => hQ s3 (cF_trans hF4 hF5) hA3)
  rw [List.length_append, List.length_append]
  show ts.length + u1.length + 1 ≤ a1
  omega
theorem c_e_ok (h1 : cOk w f n b 14 0 dm [some (.ref f), some (.int (nI k)), none] a a1 u1) (h2 : ∀ i, i ≤ a1 → cOk w f n b 13 12 (dm + 1) [some (.ref f), some (.int (nI k)), some (.int (nI i))] a1 a2 u2) : cOk w f n b 13 0 (dm + 1) [some (.ref f), some (.int (nI k)), none] a a2 (u1 ++ u2) := by
  intro d s ts Q hd hB hA hQ
  obtain ⟨d, rfl⟩ : ∃ e, d = e + 1 := ⟨d - 1, by omega⟩
  have hf := hB.1
  have hl := h2 0 (Nat.zero_le _)
  rw [nI_0] at hl
  simp only [E_X1_either_0, E_X1_either_1, E_X1_either_2, E_X1_either_5, E_X1_either_8, E_X1_either_9, E_X1_either_10, E_X1_either_11, E_X1_either_13, E_X1_either_14, E_X1_either_17, E_X1_either_20, E_X1_either_21, E_X1_either_24, E_X1_either_26, E_X1_either_29, E_X1_either_30, E_X1_either_31, E_X1_either_34, E_X1_either_35, E_X1_either_36, E_X1_either_39, E_X1_either_40, E_X1_either_41, E_X1_either_44, E_X1_either_47, E_X1_either_48, E_X1_either_49, E_X1_either_50, E_X1_either_51, E_X1_either_52, E_X1_either_53, E_X1_either_56, E_X1_either_59, E_X1_either_62, E_X1_either_63, gF_cl hf, List.map_nil, List.map_cons, List.sum_cons, List.sum_nil, gcat_i, gcat_r, gcat_l, Nat.reduceAdd, Nat.reduceLeDiff, Nat.zero_le, Option.toList, List.cons_append, List.nil_append, gnk_i, gnk_r, gnk_n, gi_1, Nat.reduceLT, if_true, if_false]
  refine h1 d s ts _ (by omega) hB hA (fun s1 hF1 hA1 => ?_)
  simp only [E_X1_either_0, E_X1_either_1, E_X1_either_2, E_X1_either_5, E_X1_either_8, E_X1_either_9, E_X1_either_10, E_X1_either_11, E_X1_either_13, E_X1_either_14, E_X1_either_17, E_X1_either_20, E_X1_either_21, E_X1_either_24, E_X1_either_26, E_X1_either_29, E_X1_either_30, E_X1_either_31, E_X1_either_34, E_X1_either_35, E_X1_either_36, E_X1_either_39, E_X1_either_40, E_X1_either_41, E_X1_either_44, E_X1_either_47, E_X1_either_48, E_X1_either_49, E_X1_either_50, E_X1_either_51, E_X1_either_52, E_X1_either_53, E_X1_either_56, E_X1_either_59, E_X1_either_62, E_X1_either_63, g1_0, List.map_nil, List.map_cons, List.sum_cons, List.sum_nil, gcat_i, gcat_r, gcat_l, Nat.reduceAdd, Nat.reduceLeDiff, Nat.zero_le, Option.toList, List.cons_append, List.nil_append, gnk_i, gnk_r, gnk_n, gi_1, Nat.reduceLT, if_true, if_false]
  exact hl (d + 1) s1 (ts ++ u1) Q (by omega) (cB_F hB hF1) hA1 (fun s2 hF2 hA2 => hQ s2 (cF_trans hF1 hF2) (by rw [← List.append_assoc]; exact hA2))
theorem c_e_no1 (h1 : cNo w f n b 14 0 dm [some (.ref f), some (.int (nI k)), none] a a1) : cNo w f n b 13 0 (dm + 1) [some (.ref f), some (.int (nI k)), none] a a1 := by
  intro d s ts Q hd hB hA hQ
  obtain ⟨d, rfl⟩ : ∃ e, d = e + 1 := ⟨d - 1, by omega⟩
  have hf := hB.1
  simp only [E_X1_either_0, E_X1_either_1, E_X1_either_2, E_X1_either_5, E_X1_either_8, E_X1_either_9, E_X1_either_10, E_X1_either_11, E_X1_either_13, E_X1_either_14, E_X1_either_17, E_X1_either_20, E_X1_either_21, E_X1_either_24, E_X1_either_26, E_X1_either_29, E_X1_either_30, E_X1_either_31, E_X1_either_34, E_X1_either_35, E_X1_either_36, E_X1_either_39, E_X1_either_40, E_X1_either_41, E_X1_either_44, E_X1_either_47, E_X1_either_48, E_X1_either_49, E_X1_either_50, E_X1_either_51, E_X1_either_52, E_X1_either_53, E_X1_either_56, E_X1_either_59, E_X1_either_62, E_X1_either_63, gF_cl hf, List.map_nil, List.map_cons, List.sum_cons, List.sum_nil, gcat_i, gcat_r, gcat_l, Nat.reduceAdd, Nat.reduceLeDiff, Nat.zero_le, Option.toList, List.cons_append, List.nil_append, gnk_i, gnk_r, gnk_n, gi_1, Nat.reduceLT, if_true, if_false]
  refine h1 d s ts _ (by omega) hB hA (fun s1 hF1 hA1 => ?_)
  simp only [E_X1_either_0, E_X1_either_1, E_X1_either_2, E_X1_either_5, E_X1_either_8, E_X1_either_9, E_X1_either_10, E_X1_either_11, E_X1_either_13, E_X1_either_14, E_X1_either_17, E_X1_either_20, E_X1_either_21, E_X1_either_24, E_X1_either_26, E_X1_either_29, E_X1_either_30, E_X1_either_31, E_X1_either_34, E_X1_either_35, E_X1_either_36, E_X1_either_39, E_X1_either_40, E_X1_either_41, E_X1_either_44, E_X1_either_47, E_X1_either_48, E_X1_either_49, E_X1_either_50, E_X1_either_51, E_X1_either_52, E_X1_either_53, E_X1_either_56, E_X1_either_59, E_X1_either_62, E_X1_either_63, gb_n0, List.map_nil, List.map_cons, List.sum_cons, List.sum_nil, gcat_i, gcat_r, gcat_l, Nat.reduceAdd, Nat.reduceLeDiff, Nat.zero_le, Option.toList, List.cons_append, List.nil_append, gnk_i, gnk_r, gnk_n, gi_1, Nat.reduceLT, if_true, if_false]
  exact hQ s1 hF1 hA1
theorem c_e_no2 (h1 : cOk w f n b 14 0 dm [some (.ref f), some (.int (nI k)), none] a a1 u1) (h2 : ∀ i, i ≤ a1 → cNo w f n b 13 12 (dm + 1) [some (.ref f), some (.int (nI k)), some (.int (nI i))] a1 a2) : cNo w f n b 13 0 (dm + 1) [some (.ref f), some (.int (nI k)), none] a a2 := by
  intro d s ts Q hd hB hA hQ
  obtain ⟨d, rfl⟩ : ∃ e, d = e + 1 := ⟨d - 1, by omega⟩
  have hf := hB.1
  have hl := h2 0 (Nat.zero_le _)
  rw [nI_0] at hl
  simp only [E_X1_either_0, E_X1_either_1, E_X1_either_2, E_X1_either_5, E_X1_either_8, E_X1_either_9, E_X1_either_10, E_X1_either_11, E_X1_either_13, E_X1_either_14, E_X1_either_17, E_X1_either_20, E_X1_either_21, E_X1_either_24, E_X1_either_26, E_X1_either_29, E_X1_either_30, E_X1_either_31, E_X1_either_34, E_X1_either_35, E_X1_either_36, E_X1_either_39, E_X1_either_40, E_X1_either_41, E_X1_either_44, E_X1_either_47, E_X1_either_48, E_X1_either_49, E_X1_either_50, E_X1_either_51, E_X1_either_52, E_X1_either_53, E_X1_either_56, E_X1_either_59, E_X1_either_62, E_X1_either_63, gF_cl hf, List.map_nil, List.map_cons, List.sum_cons, List.sum_nil, gcat_i, gcat_r, gcat_l, Nat.reduceAdd, Nat.reduceLeDiff, Nat.zero_le, Option.toList, List.cons_append, List.nil_append, gnk_i, gnk_r, gnk_n, gi_1, Nat.reduceLT, if_true, if_false]
  refine h1 d s ts _ (by omega) hB hA (fun s1 hF1 hA1 => ?_)
  simp only [E_X1_either_0, E_X1_either_1, E_X1_either_2, E_X1_either_5, E_X1_either_8, E_X1_either_9, E_X1_either_10, E_X1_either_11, E_X1_either_13, E_X1_either_14, E_X1_either_17, E_X1_either_20, E_X1_either_21, E_X1_either_24, E_X1_either_26, E_X1_either_29, E_X1_either_30, E_X1_either_31, E_X1_either_34, E_X1_either_35, E_X1_either_36, E_X1_either_39, E_X1_either_40, E_X1_either_41, E_X1_either_44, E_X1_either_47, E_X1_either_48, E_X1_either_49, E_X1_either_50, E_X1_either_51, E_X1_either_52, E_X1_either_53, E_X1_either_56, E_X1_either_59, E_X1_either_62, E_X1_either_63, g1_0, List.map_nil, List.map_cons, List.sum_cons, List.sum_nil, gcat_i, gcat_r, gcat_l, Nat.reduceAdd, Nat.reduceLeDiff, Nat.zero_le, Option.toList, List.cons_append, List.nil_append, gnk_i, gnk_r, gnk_n, gi_1, Nat.reduceLT, if_true, if_false]
  exact hl (d + 1) s1 (ts ++ u1) Q (by omega) (cB_F hB hF1) hA1 (fun s2 hF2 hA2 => hQ s2 (cF_trans hF1 hF2) hA2)
theorem c_el_stop {i : Nat} (h : xt n b a ≠ 124) (hi : i ≤ a) : cOk w f n b 13 12 (dm + 1) [some (.ref f), some (.int (nI k)), some (.int (nI i))] a a [] := by
  intro d s ts Q hd hB hA hQ
  obtain ⟨d, rfl⟩ : ∃ e, d = e + 1 := ⟨d - 1, by omega⟩
  have hf := hB.1
  have h100 := hB.2.1
  have hn := hA.2.1
  have h7 := hB.2.2.2.1
  have e : (xn n b a = 124) = (xt n b a = 124) := xn_eq (c := 124) hB.2.2.2.2.1 (by decide) (by decide)
  have hQ := hQ s cF_refl (by rw [List.append_nil]; exact hA)
  rw [E_X1_either_12]
  by_cases h1 : i < n
  · have e1 : ¬ nI n ≤ nI i := nI_ge h1 (by omega)
    simp only [E_X1_either_0, E_X1_either_1, E_X1_either_2, E_X1_either_5, E_X1_either_8, E_X1_either_9, E_X1_either_10, E_X1_either_11, E_X1_either_13, E_X1_either_14, E_X1_either_17, E_X1_either_20, E_X1_either_21, E_X1_either_24, E_X1_either_26, E_X1_either_29, E_X1_either_30, E_X1_either_31, E_X1_either_34, E_X1_either_35, E_X1_either_36, E_X1_either_39, E_X1_either_40, E_X1_either_41, E_X1_either_44, E_X1_either_47, E_X1_either_48, E_X1_either_49, E_X1_either_50, E_X1_either_51, E_X1_either_52, E_X1_either_53, E_X1_either_56, E_X1_either_59, E_X1_either_62, E_X1_either_63, gF_cl hf, gF_gok hf, Fg_7 hf, h7, e1, c_next hB hA.1 hA.2.1, e, h, gb_n1, List.map_nil, List.map_cons, List.sum_cons, List.sum_nil, gcat_i, gcat_r, gcat_l, Nat.reduceAdd, Nat.reduceLeDiff, Nat.zero_le, Option.toList, List.cons_append, List.nil_append, gnk_i, gnk_r, gnk_n, gi_1, Nat.reduceLT, if_true, if_false]
    exact hQ
  · have e1 : nI n ≤ nI i := nI_le (by omega) (by omega)
    simp only [E_X1_either_0, E_X1_either_1, E_X1_either_2, E_X1_either_5, E_X1_either_8, E_X1_either_9, E_X1_either_10, E_X1_either_11, E_X1_either_13, E_X1_either_14, E_X1_either_17, E_X1_either_20, E_X1_either_21, E_X1_either_24, E_X1_either_26, E_X1_either_29, E_X1_either_30, E_X1_either_31, E_X1_either_34, E_X1_either_35, E_X1_either_36, E_X1_either_39, E_X1_either_40, E_X1_either_41, E_X1_either_44, E_X1_either_47, E_X1_either_48, E_X1_either_49, E_X1_either_50, E_X1_either_51, E_X1_either_52, E_X1_either_53, E_X1_either_56, E_X1_either_59, E_X1_either_62, E_X1_either_63, gF_cl hf, gF_gok hf, Fg_7 hf, h7, e1, gb_n1, List.map_nil, List.map_cons, List.sum_cons, List.sum_nil, gcat_i, gcat_r, gcat_l, Nat.reduceAdd, Nat.reduceLeDiff, Nat.zero_le, Option.toList, List.cons_append, List.nil_append, gnk_i, gnk_r, gnk_n, gi_1, Nat.reduceLT, if_true, if_false]
    exact hQ
theorem c_el_ok {i : Nat} (h : xt n b a = 124) (hi : i ≤ a) (hg : a + 1 + u1.length ≤ a1) (h1 : cOk w f n b 14 0 dm [some (.ref f), some (.int (nI k)), none] (a + 1) a1 u1) (h2 : ∀ i, i ≤ a1 → cOk w f n b 13 12 (dm + 1) [some (.ref f), some (.int (nI k)), some (.int (nI i))] a1 a2 u2) (hdm : 1 ≤ dm) : cOk w f n b 13 12 (dm + 1) [some (.ref f), some (.int (nI k)), some (.int (nI i))] a a2 (u1 ++ ((5, 0, 0) :: u2)) := by
  intro d s ts Q hd hB hA hQ
  obtain ⟨d, rfl⟩ : ∃ e, d = e + 1 := ⟨d - 1, by omega⟩
  have hf := hB.1
  have h100 := hB.2.1
  have ha : a < n := xt_lt (b := b) (by omega)
  have h7 := hB.2.2.2.1
  have e : (xn n b a = 124) = (xt n b a = 124) := xn_eq (c := 124) hB.2.2.2.2.1 (by decide) (by decide)
  have e1 : ¬ nI n ≤ nI i := nI_ge (by omega) (by omega)
  have hA1 : cA f n (gm_si s f 8 (nI (a + 1))) (a + 1) ts := cA_8 hA (by omega) (by omega)
  have hF1 : cF f s (gm_si s f 8 (nI (a + 1))) := cF_si (by decide)
  have hB1 := cB_F hB hF1
  have hl := h2 (i + 1) (by omega)
  rw [E_X1_either_12]
  simp only [E_X1_either_0, E_X1_either_1, E_X1_either_2, E_X1_either_5, E_X1_either_8, E_X1_either_9, E_X1_either_10, E_X1_either_11, E_X1_either_13, E_X1_either_14, E_X1_either_17, E_X1_either_20, E_X1_either_21, E_X1_either_24, E_X1_either_26, E_X1_either_29, E_X1_either_30, E_X1_either_31, E_X1_either_34, E_X1_either_35, E_X1_either_36, E_X1_either_39, E_X1_either_40, E_X1_either_41, E_X1_either_44, E_X1_either_47, E_X1_either_48, E_X1_either_49, E_X1_either_50, E_X1_either_51, E_X1_either_52, E_X1_either_53, E_X1_either_56, E_X1_either_59, E_X1_either_62, E_X1_either_63, gF_cl hf, gF_gok hf, Fg_7 hf, Fg_8 hf, Fp_8 hf, h7, e1, c_next hB hA.1 hA.2.1, e, h, hA.1, nI_1, List.map_nil, List.map_cons, List.sum_cons, List.sum_nil, gcat_i, gcat_r, gcat_l, Nat.reduceAdd, Nat.reduceLeDiff, Nat.zero_le, Option.toList, List.cons_append, List.nil_append, gnk_i, gnk_r, gnk_n, gi_1, Nat.reduceLT, if_true, if_false]
  refine h1 d _ ts _ (by omega) hB1 hA1 (fun s1 hF2 hA2 => ?_)
  simp only [E_X1_either_0, E_X1_either_1, E_X1_either_2, E_X1_either_5, E_X1_either_8, E_X1_either_9, E_X1_either_10, E_X1_either_11, E_X1_either_13, E_X1_either_14, E_X1_either_17, E_X1_either_20, E_X1_either_21, E_X1_either_24, E_X1_either_26, E_X1_either_29, E_X1_either_30, E_X1_either_31, E_X1_either_34, E_X1_either_35, E_X1_either_36, E_X1_either_39, E_X1_either_40, E_X1_either_41, E_X1_either_44, E_X1_either_47, E_X1_either_48, E_X1_either_49, E_X1_either_50, E_X1_either_51, E_X1_either_52, E_X1_either_53, E_X1_either_56, E_X1_either_59, E_X1_either_62, E_X1_either_63, gF_cl hf, g1_0, List.map_nil, List.map_cons, List.sum_cons, List.sum_nil, gcat_i, gcat_r, gcat_l, Nat.reduceAdd, Nat.reduceLeDiff, Nat.zero_le, Option.toList, List.cons_append, List.nil_append, gnk_i, gnk_r, gnk_n, gi_1, Nat.reduceLT, if_true, if_false]
  have hl2 := hA.2.2.1
  refine c_add hf hA2.2.2.2 (by rw [List.length_append]; have := hA2.2.1; omega) (5, 0, 0) rfl rfl rfl (fun s2 hF3 h8 hK => ?_)
  simp only [E_X1_either_0, E_X1_either_1, E_X1_either_2, E_X1_either_5, E_X1_either_8, E_X1_either_9, E_X1_either_10, E_X1_either_11, E_X1_either_13, E_X1_either_14, E_X1_either_17, E_X1_either_20, E_X1_either_21, E_X1_either_24, E_X1_either_26, E_X1_either_29, E_X1_either_30, E_X1_either_31, E_X1_either_34, E_X1_either_35, E_X1_either_36, E_X1_either_39, E_X1_either_40, E_X1_either_41, E_X1_either_44, E_X1_either_47, E_X1_either_48, E_X1_either_49, E_X1_either_50, E_X1_either_51, E_X1_either_52, E_X1_either_53, E_X1_either_56, E_X1_either_59, E_X1_either_62, E_X1_either_63, gi_1, nI_1, List.map_nil, List.map_cons, List.sum_cons, List.sum_nil, gcat_i, gcat_r, gcat_l, Nat.reduceAdd, Nat.reduceLeDiff, Nat.zero_le, Option.toList, List.cons_append, List.nil_append, gnk_i, gnk_r, gnk_n, gi_1, Nat.reduceLT, if_true, if_false]
  have hF4 := cF_trans hF1 (cF_trans hF2 hF3)
  refine hl (d + 1) s2 _ Q (by omega) (cB_F hB hF4) ⟨h8.trans hA2.1, hA2.2.1, ?_, hK⟩ (fun s3 hF5 hA3 => hQ s3 (cF_trans hF4 hF5) ?_)
  · rw [List.length_append, List.length_append]
    show ts.length + u1.length + 1 ≤ a1
    omega
  · rw [List.append_assoc, List.append_assoc] at hA3
    exact hA3
theorem c_el_no1 {i : Nat} (h : xt n b a = 124) (hi : i ≤ a) (h1 : cNo w f n b 14 0 dm [some (.ref f), some (.int (nI k)), none] (a + 1) a1) : cNo w f n b 13 12 (dm + 1) [some (.ref f), some (.int (nI k)), some (.int (nI i))] a a1 := by
  intro d s ts Q hd hB hA hQ
  obtain ⟨d, rfl⟩ : ∃ e, d = e + 1 := ⟨d - 1, by omega⟩
  have hf := hB.1
  have h100 := hB.2.1
  have ha : a < n := xt_lt (b := b) (by omega)
  have h7 := hB.2.2.2.1
  have e : (xn n b a = 124) = (xt n b a = 124) := xn_eq (c := 124) hB.2.2.2.2.1 (by decide) (by decide)
  have e1 : ¬ nI n ≤ nI i := nI_ge (by omega) (by omega)
  have hA1 : cA f n (gm_si s f 8 (nI (a + 1))) (a + 1) ts := cA_8 hA (by omega) (by omega)
  have hF1 : cF f s (gm_si s f 8 (nI (a + 1))) := cF_si (by decide)
  have hB1 := cB_F hB hF1
  rw [E_X1_either_12]
  simp only [E_X1_either_0, E_X1_either_1, E_X1_either_2, E_X1_either_5, E_X1_either_8, E_X1_either_9, E_X1_either_10, E_X1_either_11, E_X1_either_13, E_X1_either_14, E_X1_either_17, E_X1_either_20, E_X1_either_21, E_X1_either_24, E_X1_either_26, E_X1_either_29, E_X1_either_30, E_X1_either_31, E_X1_either_34, E_X1_either_35, E_X1_either_36, E_X1_either_39, E_X1_either_40, E_X1_either_41, E_X1_either_44, E_X1_either_47, E_X1_either_48, E_X1_either_49, E_X1_either_50, E_X1_either_51, E_X1_either_52, E_X1_either_53, E_X1_either_56, E_X1_either_59, E_X1_either_62, E_X1_either_63, gF_cl hf, gF_gok hf, Fg_7 hf, Fg_8 hf, Fp_8 hf, h7, e1, c_next hB hA.1 hA.2.1, e, h, hA.1, nI_1, List.map_nil, List.map_cons, List.sum_cons, List.sum_nil, gcat_i, gcat_r, gcat_l, Nat.reduceAdd, Nat.reduceLeDiff, Nat.zero_le, Option.toList, List.cons_append, List.nil_append, gnk_i, gnk_r, gnk_n, gi_1, Nat.reduceLT, if_true, if_false]
  refine h1 d _ ts _ (by omega) hB1 hA1 (fun s1 hF2 hA2 => ?_)
  simp only [E_X1_either_0, E_X1_either_1, E_X1_either_2, E_X1_either_5, E_X1_either_8, E_X1_either_9, E_X1_either_10, E_X1_either_11, E_X1_either_13, E_X1_either_14, E_X1_either_17, E_X1_either_20, E_X1_either_21, E_X1_either_24, E_X1_either_26, E_X1_either_29, E_X1_either_30, E_X1_either_31, E_X1_either_34, E_X1_either_35, E_X1_either_36, E_X1_either_39, E_X1_either_40, E_X1_either_41, E_X1_either_44, E_X1_either_47, E_X1_either_48, E_X1_either_49, E_X1_either_50, E_X1_either_51, E_X1_either_52, E_X1_either_53, E_X1_either_56, E_X1_either_59, E_X1_either_62, E_X1_either_63, gb_n0, List.map_nil, List.map_cons, List.sum_cons, List.sum_nil, gcat_i, gcat_r, gcat_l, Nat.reduceAdd, Nat.reduceLeDiff, Nat.zero_le, Option.toList, List.cons_append, List.nil_append, gnk_i, gnk_r, gnk_n, gi_1, Nat.reduceLT, if_true, if_false]
  exact hQ s1 (cF_trans hF1 hF2) hA2
theorem c_el_no2 {i : Nat} (h : xt n b a = 124) (hi : i ≤ a) (hg : a + 1 + u1.length ≤ a1) (h1 : cOk w f n b 14 0 dm [some (.ref f), some (.int (nI k)), none] (a + 1) a1 u1) (h2 : ∀ i, i ≤ a1 → cNo w f n b 13 12 (dm + 1) [some (.ref f), some (.int (nI k)), some (.int (nI i))] a1 a2) (hdm : 1 ≤ dm) : cNo w f n b 13 12 (dm + 1) [some (.ref f), some (.int (nI k)), some (.int (nI i))] a a2 := by
  intro d s ts Q hd hB hA hQ
  obtain ⟨d, rfl⟩ : ∃ e, d = e + 1 := ⟨d - 1, by omega⟩
  have hf := hB.1
  have h100 := hB.2.1
  have ha : a < n := xt_lt (b := b) (by omega)
  have h7 := hB.2.2.2.1
  have e : (xn n b a = 124) = (xt n b a = 124) := xn_eq (c := 124) hB.2.2.2.2.1 (by decide) (by decide)
  have e1 : ¬ nI n ≤ nI i := nI_ge (by omega) (by omega)
  have hA1 : cA f n (gm_si s f 8 (nI (a + 1))) (a + 1) ts := cA_8 hA (by omega) (by omega)
  have hF1 : cF f s (gm_si s f 8 (nI (a + 1))) := cF_si (by decide)
  have hB1 := cB_F hB hF1
  have hl := h2 (i + 1) (by omega)
  rw [E_X1_either_12]
  simp only [E_X1_either_0, E_X1_either_1, E_X1_either_2, E_X1_either_5, E_X1_either_8, E_X1_either_9, E_X1_either_10, E_X1_either_11, E_X1_either_13, E_X1_either_14, E_X1_either_17, E_X1_either_20, E_X1_either_21, E_X1_either_24, E_X1_either_26, E_X1_either_29, E_X1_either_30, E_X1_either_31, E_X1_either_34, E_X1_either_35, E_X1_either_36, E_X1_either_39, E_X1_either_40, E_X1_either_41, E_X1_either_44, E_X1_either_47, E_X1_either_48, E_X1_either_49, E_X1_either_50, E_X1_either_51, E_X1_either_52, E_X1_either_53, E_X1_either_56, E_X1_either_59, E_X1_either_62, E_X1_either_63, gF_cl hf, gF_gok hf, Fg_7 hf, Fg_8 hf, Fp_8 hf, h7, e1, c_next hB hA.1 hA.2.1, e, h, hA.1, nI_1, List.map_nil, List.map_cons, List.sum_cons, List.sum_nil, gcat_i, gcat_r, gcat_l, Nat.reduceAdd, Nat.reduceLeDiff, Nat.zero_le, Option.toList, List.cons_append, List.nil_append, gnk_i, gnk_r, gnk_n, gi_1, Nat.reduceLT, if_true, if_false]
  refine h1 d _ ts _ (by omega) hB1 hA1 (fun s1 hF2 hA2 => ?_)
  simp only [E_X1_either_0, E_X1_either_1, E_X1_either_2, E_X1_either_5, E_X1_either_8, E_X1_either_9, E_X1_either_10, E_X1_either_11, E_X1_either_13, E_X1_either_14, E_X1_either_17, E_X1_either_20, E_X1_either_21, E_X1_either_24, E_X1_either_26, E_X1_either_29, E_X1_either_30, E_X1_either_31, E_X1_either_34, E_X1_either_35, E_X1_either_36, E_X1_either_39, E_X1_either_40, E_X1_either_41, E_X1_either_44, E_X1_either_47, E_X1_either_48, E_X1_either_49, E_X1_either_50, E_X1_either_51, E_X1_either_52, E_X1_either_53, E_X1_either_56, E_X1_either_59, E_X1_either_62, E_X1_either_63, gF_cl hf, g1_0, List.map_nil, List.map_cons, List.sum_cons, List.sum_nil, gcat_i, gcat_r, gcat_l, Nat.reduceAdd, Nat.reduceLeDiff, Nat.zero_le, Option.toList, List.cons_append, List.nil_append, gnk_i, gnk_r, gnk_n, gi_1, Nat.reduceLT, if_true, if_false]
  have hl2 := hA.2.2.1
  refine c_add hf hA2.2.2.2 (by rw [List.length_append]; have := hA2.2.1; omega) (5, 0, 0) rfl rfl rfl (fun s2 hF3 h8 hK => ?_)
  simp only [E_X1_either_0, E_X1_either_1, E_X1_either_2, E_X1_either_5, E_X1_either_8, E_X1_either_9, E_X1_either_10, E_X1_either_11, E_X1_either_13, E_X1_either_14, E_X1_either_17, E_X1_either_20, E_X1_either_21, E_X1_either_24, E_X1_either_26, E_X1_either_29, E_X1_either_30, E_X1_either_31, E_X1_either_34, E_X1_either_35, E_X1_either_36, E_X1_either_39, E_X1_either_40, E_X1_either_41, E_X1_either_44, E_X1_either_47, E_X1_either_48, E_X1_either_49, E_X1_either_50, E_X1_either_51, E_X1_either_52, E_X1_either_53, E_X1_either_56, E_X1_either_59, E_X1_either_62, E_X1_either_63, gi_1, nI_1, List.map_nil, List.map_cons, List.sum_cons, List.sum_nil, gcat_i, gcat_r, gcat_l, Nat.reduceAdd, Nat.reduceLeDiff, Nat.zero_le, Option.toList, List.cons_append, List.nil_append, gnk_i, gnk_r, gnk_n, gi_1, Nat.reduceLT, if_true, if_false]
  have hF4 := cF_trans hF1 (cF_trans hF2 hF3)
  refine hl (d + 1) s2 _ Q (by omega) (cB_F hB hF4) ⟨h8.trans hA2.1, hA2.2.1, ?_, hK⟩ (fun s3 hF5 hA3 => hQ s3 (cF_trans hF4 hF5) hA3)
  rw [List.length_append, List.length_append]
  show ts.length + u1.length + 1 ≤ a1
  omega
theorem c_s_test (h33 : xt n b a ≠ 33) (h40 : xt n b a ≠ 40) (h1 : cOk w f n b 16 0 dm [some (.ref f), none, none] a a1 u) : cOk w f n b 15 0 (dm + 1) [some (.ref f), some (.int (nI k)), none] a a1 u := by
  intro d s ts Q hd hB hA hQ
  obtain ⟨d, rfl⟩ : ∃ e, d = e + 1 := ⟨d - 1, by omega⟩
  have hf := hB.1
  have h100 := hB.2.1
  have e33 : (xn n b a = 33) = (xt n b a = 33) := xn_eq (c := 33) hB.2.2.2.2.1 (by decide) (by decide)
  have e40 : (xn n b a = 40) = (xt n b a = 40) := xn_eq (c := 40) hB.2.2.2.2.1 (by decide) (by decide)
  simp only [E_X1_single_0, E_X1_single_1, E_X1_single_4, E_X1_single_5, E_X1_single_6, E_X1_single_8, E_X1_single_11, E_X1_single_12, E_X1_single_14, E_X1_single_17, E_X1_single_18, E_X1_single_21, E_X1_single_22, E_X1_single_23, E_X1_single_24, E_X1_single_27, E_X1_single_28, E_X1_single_29, E_X1_single_30, E_X1_single_31, E_X1_single_34, E_X1_single_35, E_X1_single_36, E_X1_single_39, E_X1_single_40, E_X1_single_42, E_X1_single_45, E_X1_single_46, E_X1_single_47, E_X1_single_48, E_X1_single_49, E_X1_single_52, E_X1_single_55, E_X1_single_56, E_X1_single_58, E_X1_single_61, E_X1_single_64, E_X1_single_65, E_X1_single_68, E_X1_single_69, E_X1_single_70, E_X1_single_71, E_X1_single_72, E_X1_single_73, E_X1_single_74, E_X1_single_77, E_X1_single_80, E_X1_single_81, E_X1_single_82, E_X1_single_83, E_X1_single_84, E_X1_single_85, E_X1_single_86, E_X1_single_89, E_X1_single_90, gF_cl hf, c_next hB hA.1 hA.2.1, e33, e40, h33, h40, List.map_nil, List.map_cons, List.sum_cons, List.sum_nil, gcat_i, gcat_r, gcat_l, Nat.reduceAdd, Nat.reduceLeDiff, Nat.zero_le, Option.toList, List.cons_append, List.nil_append, gnk_i, gnk_r, gnk_n, gi_1, Nat.reduceLT, if_true, if_false]
  refine h1 d s ts _ (by omega) hB hA (fun s1 hF1 hA1 => ?_)
  simp only [E_X1_single_0, E_X1_single_1, E_X1_single_4, E_X1_single_5, E_X1_single_6, E_X1_single_8, E_X1_single_11, E_X1_single_12, E_X1_single_14, E_X1_single_17, E_X1_single_18, E_X1_single_21, E_X1_single_22, E_X1_single_23, E_X1_single_24, E_X1_single_27, E_X1_single_28, E_X1_single_29, E_X1_single_30, E_X1_single_31, E_X1_single_34, E_X1_single_35, E_X1_single_36, E_X1_single_39, E_X1_single_40, E_X1_single_42, E_X1_single_45, E_X1_single_46, E_X1_single_47, E_X1_single_48, E_X1_single_49, E_X1_single_52, E_X1_single_55, E_X1_single_56, E_X1_single_58, E_X1_single_61, E_X1_single_64, E_X1_single_65, E_X1_single_68, E_X1_single_69, E_X1_single_70, E_X1_single_71, E_X1_single_72, E_X1_single_73, E_X1_single_74, E_X1_single_77, E_X1_single_80, E_X1_single_81, E_X1_single_82, E_X1_single_83, E_X1_single_84, E_X1_single_85, E_X1_single_86, E_X1_single_89, E_X1_single_90, gb_n1, List.map_nil, List.map_cons, List.sum_cons, List.sum_nil, gcat_i, gcat_r, gcat_l, Nat.reduceAdd, Nat.reduceLeDiff, Nat.zero_le, Option.toList, List.cons_append, List.nil_append, gnk_i, gnk_r, gnk_n, gi_1, Nat.reduceLT, if_true, if_false]
  exact hQ s1 hF1 hA1
theorem c_s_testN (h33 : xt n b a ≠ 33) (h40 : xt n b a ≠ 40) (h1 : cNo w f n b 16 0 dm [some (.ref f), none, none] a a1) : cNo w f n b 15 0 (dm + 1) [some (.ref f), some (.int (nI k)), none] a a1 := by
  intro d s ts Q hd hB hA hQ
  obtain ⟨d, rfl⟩ : ∃ e, d = e + 1 := ⟨d - 1, by omega⟩
  have hf := hB.1
  have h100 := hB.2.1
  have e33 : (xn n b a = 33) = (xt n b a = 33) := xn_eq (c := 33) hB.2.2.2.2.1 (by decide) (by decide)
  have e40 : (xn n b a = 40) = (xt n b a = 40) := xn_eq (c := 40) hB.2.2.2.2.1 (by decide) (by decide)
  simp only [E_X1_single_0, E_X1_single_1, E_X1_single_4, E_X1_single_5, E_X1_single_6, E_X1_single_8, E_X1_single_11, E_X1_single_12, E_X1_single_14, E_X1_single_17, E_X1_single_18, E_X1_single_21, E_X1_single_22, E_X1_single_23, E_X1_single_24, E_X1_single_27, E_X1_single_28, E_X1_single_29, E_X1_single_30, E_X1_single_31, E_X1_single_34, E_X1_single_35, E_X1_single_36, E_X1_single_39, E_X1_single_40, E_X1_single_42, E_X1_single_45, E_X1_single_46, E_X1_single_47, E_X1_single_48, E_X1_single_49, E_X1_single_52, E_X1_single_55, E_X1_single_56, E_X1_single_58, E_X1_single_61, E_X1_single_64, E_X1_single_65, E_X1_single_68, E_X1_single_69, E_X1_single_70, E_X1_single_71, E_X1_single_72, E_X1_single_73, E_X1_single_74, E_X1_single_77, E_X1_single_80, E_X1_single_81, E_X1_single_82, E_X1_single_83, E_X1_single_84, E_X1_single_85, E_X1_single_86, E_X1_single_89, E_X1_single_90, gF_cl hf, c_next hB hA.1 hA.2.1, e33, e40, h33, h40, List.map_nil, List.map_cons, List.sum_cons, List.sum_nil, gcat_i, gcat_r, gcat_l, Nat.reduceAdd, Nat.reduceLeDiff, Nat.zero_le, Option.toList, List.cons_append, List.nil_append, gnk_i, gnk_r, gnk_n, gi_1, Nat.reduceLT, if_true, if_false]
  refine h1 d s ts _ (by omega) hB hA (fun s1 hF1 hA1 => ?_)
  simp only [E_X1_single_0, E_X1_single_1, E_X1_single_4, E_X1_single_5, E_X1_single_6, E_X1_single_8, E_X1_single_11, E_X1_single_12, E_X1_single_14, E_X1_single_17, E_X1_single_18, E_X1_single_21, E_X1_single_22, E_X1_single_23, E_X1_single_24, E_X1_single_27, E_X1_single_28, E_X1_single_29, E_X1_single_30, E_X1_single_31, E_X1_single_34, E_X1_single_35, E_X1_single_36, E_X1_single_39, E_X1_single_40, E_X1_single_42, E_X1_single_45, E_X1_single_46, E_X1_single_47, E_X1_single_48, E_X1_single_49, E_X1_single_52, E_X1_single_55, E_X1_single_56, E_X1_single_58, E_X1_single_61, E_X1_single_64, E_X1_single_65, E_X1_single_68, E_X1_single_69, E_X1_single_70, E_X1_single_71, E_X1_single_72, E_X1_single_73, E_X1_single_74, E_X1_single_77, E_X1_single_80, E_X1_single_81, E_X1_single_82, E_X1_single_83, E_X1_single_84, E_X1_single_85, E_X1_single_86, E_X1_single_89, E_X1_single_90, gb_n0, List.map_nil, List.map_cons, List.sum_cons, List.sum_nil, gcat_i, gcat_r, gcat_l, Nat.reduceAdd, Nat.reduceLeDiff, Nat.zero_le, Option.toList, List.cons_append, List.nil_append, gnk_i, gnk_r, gnk_n, gi_1, Nat.reduceLT, if_true, if_false]
  exact hQ s1 hF1 hA1
theorem c_s_deep (h : xt n b a = 33 ∨ xt n b a = 40) (hk : 4 ≤ k) (hk2 : k < 100) (hdm : 1 ≤ dm) : cNo w f n b 15 0 dm [some (.ref f), some (.int (nI k)), none] a a := by
  intro d s ts Q hd hB hA hQ
  obtain ⟨d, rfl⟩ : ∃ e, d = e + 1 := ⟨d - 1, by omega⟩
  have hf := hB.1
  have h100 := hB.2.1
  have e4 : ¬ nI k < 4 := nI_nlt (b := 4) hk (by omega)
  have e33 : (xn n b a = 33) = (xt n b a = 33) := xn_eq (c := 33) hB.2.2.2.2.1 (by decide) (by decide)
  have e40 : (xn n b a = 40) = (xt n b a = 40) := xn_eq (c := 40) hB.2.2.2.2.1 (by decide) (by decide)
  by_cases h33 : xt n b a = 33
  · simp only [E_X1_single_0, E_X1_single_1, E_X1_single_4, E_X1_single_5, E_X1_single_6, E_X1_single_8, E_X1_single_11, E_X1_single_12, E_X1_single_14, E_X1_single_17, E_X1_single_18, E_X1_single_21, E_X1_single_22, E_X1_single_23, E_X1_single_24, E_X1_single_27, E_X1_single_28, E_X1_single_29, E_X1_single_30, E_X1_single_31, E_X1_single_34, E_X1_single_35, E_X1_single_36, E_X1_single_39, E_X1_single_40, E_X1_single_42, E_X1_single_45, E_X1_single_46, E_X1_single_47, E_X1_single_48, E_X1_single_49, E_X1_single_52, E_X1_single_55, E_X1_single_56, E_X1_single_58, E_X1_single_61, E_X1_single_64, E_X1_single_65, E_X1_single_68, E_X1_single_69, E_X1_single_70, E_X1_single_71, E_X1_single_72, E_X1_single_73, E_X1_single_74, E_X1_single_77, E_X1_single_80, E_X1_single_81, E_X1_single_82, E_X1_single_83, E_X1_single_84, E_X1_single_85, E_X1_single_86, E_X1_single_89, E_X1_single_90, gF_cl hf, c_next hB hA.1 hA.2.1, e33, e40, h33, e4, gb_n0, List.map_nil, List.map_cons, List.sum_cons, List.sum_nil, gcat_i, gcat_r, gcat_l, Nat.reduceAdd, Nat.reduceLeDiff, Nat.zero_le, Option.toList, List.cons_append, List.nil_append, gnk_i, gnk_r, gnk_n, gi_1, Nat.reduceLT, if_true, if_false]
    exact hQ s cF_refl hA.1
  · have h40 : xt n b a = 40 := by omega
    simp only [E_X1_single_0, E_X1_single_1, E_X1_single_4, E_X1_single_5, E_X1_single_6, E_X1_single_8, E_X1_single_11, E_X1_single_12, E_X1_single_14, E_X1_single_17, E_X1_single_18, E_X1_single_21, E_X1_single_22, E_X1_single_23, E_X1_single_24, E_X1_single_27, E_X1_single_28, E_X1_single_29, E_X1_single_30, E_X1_single_31, E_X1_single_34, E_X1_single_35, E_X1_single_36, E_X1_single_39, E_X1_single_40, E_X1_single_42, E_X1_single_45, E_X1_single_46, E_X1_single_47, E_X1_single_48, E_X1_single_49, E_X1_single_52, E_X1_single_55, E_X1_single_56, E_X1_single_58, E_X1_single_61, E_X1_single_64, E_X1_single_65, E_X1_single_68, E_X1_single_69, E_X1_single_70, E_X1_single_71, E_X1_single_72, E_X1_single_73, E_X1_single_74, E_X1_single_77, E_X1_single_80, E_X1_single_81, E_X1_single_82, E_X1_single_83, E_X1_single_84, E_X1_single_85, E_X1_single_86, E_X1_single_89, E_X1_single_90, gF_cl hf, c_next hB hA.1 hA.2.1, e33, e40, h33, h40, e4, gb_n0, Nat.reduceEqDiff, List.map_nil, List.map_cons, List.sum_cons, List.sum_nil, gcat_i, gcat_r, gcat_l, Nat.reduceAdd, Nat.reduceLeDiff, Nat.zero_le, Option.toList, List.cons_append, List.nil_append, gnk_i, gnk_r, gnk_n, gi_1, Nat.reduceLT, if_true, if_false]
    exact hQ s cF_refl hA.1
theorem c_s_not (h : xt n b a = 33) (hk : k < 4) (hg : a + 1 + u.length ≤ a1) (h1 : cOk w f n b 15 0 dm [some (.ref f), some (.int (nI (k + 1))), none] (a + 1) a1 u) (hdm : 1 ≤ dm) : cOk w f n b 15 0 (dm + 1) [some (.ref f), some (.int (nI k)), none] a a1 (u ++ [(3, 0, 0)]) := by
  intro d s ts Q hd hB hA hQ
  obtain ⟨d, rfl⟩ : ∃ e, d = e + 1 := ⟨d - 1, by omega⟩
  have hf := hB.1
  have h100 := hB.2.1
  have ha : a < n := xt_lt (b := b) (by omega)
  have e4 : nI k < 4 := nI_lt (b := 4) hk (by decide)
  have hA1 : cA f n (gm_si s f 8 (nI (a + 1))) (a + 1) ts := cA_8 hA (by omega) (by omega)
  have hF1 : cF f s (gm_si s f 8 (nI (a + 1))) := cF_si (by decide)
  have hB1 := cB_F hB hF1
  have e : xn n b a = 33 := (xn_of (by omega)).trans (by rw [h]; rfl)
  rw [E_X1_single_0]
  simp (decide := true) only [E_X1_single_1, E_X1_single_4, E_X1_single_5, E_X1_single_6, E_X1_single_8, E_X1_single_11, E_X1_single_12, E_X1_single_14, E_X1_single_17, E_X1_single_18, E_X1_single_21, E_X1_single_22, E_X1_single_23, E_X1_single_24, E_X1_single_27, E_X1_single_28, E_X1_single_29, E_X1_single_30, E_X1_single_31, E_X1_single_34, E_X1_single_35, E_X1_single_36, E_X1_single_39, E_X1_single_40, E_X1_single_42, E_X1_single_45, E_X1_single_46, E_X1_single_47, E_X1_single_48, E_X1_single_49, E_X1_single_52, E_X1_single_55, E_X1_single_56, E_X1_single_58, E_X1_single_61, E_X1_single_64, E_X1_single_65, E_X1_single_68, E_X1_single_69, E_X1_single_70, E_X1_single_71, E_X1_single_72, E_X1_single_73, E_X1_single_74, E_X1_single_77, E_X1_single_80, E_X1_single_81, E_X1_single_82, E_X1_single_83, E_X1_single_84, E_X1_single_85, E_X1_single_86, E_X1_single_89, E_X1_single_90, gF_cl hf, gF_gok hf, Fg_8 hf, Fp_8 hf, c_next hB hA.1 hA.2.1, e, e4, hA.1, nI_1, List.map_nil, List.map_cons, List.sum_cons, List.sum_nil, gcat_i, gcat_r, gcat_l, Nat.reduceAdd, Nat.reduceLeDiff, Nat.zero_le, Option.toList, List.cons_append, List.nil_append, gnk_i, gnk_r, gnk_n, gi_1, Nat.reduceLT, if_true, if_false]
  refine h1 d _ ts _ (by omega) hB1 hA1 (fun s1 hF2 hA2 => ?_)
  simp only [E_X1_single_0, E_X1_single_1, E_X1_single_4, E_X1_single_5, E_X1_single_6, E_X1_single_8, E_X1_single_11, E_X1_single_12, E_X1_single_14, E_X1_single_17, E_X1_single_18, E_X1_single_21, E_X1_single_22, E_X1_single_23, E_X1_single_24, E_X1_single_27, E_X1_single_28, E_X1_single_29, E_X1_single_30, E_X1_single_31, E_X1_single_34, E_X1_single_35, E_X1_single_36, E_X1_single_39, E_X1_single_40, E_X1_single_42, E_X1_single_45, E_X1_single_46, E_X1_single_47, E_X1_single_48, E_X1_single_49, E_X1_single_52, E_X1_single_55, E_X1_single_56, E_X1_single_58, E_X1_single_61, E_X1_single_64, E_X1_single_65, E_X1_single_68, E_X1_single_69, E_X1_single_70, E_X1_single_71, E_X1_single_72, E_X1_single_73, E_X1_single_74, E_X1_single_77, E_X1_single_80, E_X1_single_81, E_X1_single_82, E_X1_single_83, E_X1_single_84, E_X1_single_85, E_X1_single_86, E_X1_single_89, E_X1_single_90, gF_cl hf, g1_0, List.map_nil, List.map_cons, List.sum_cons, List.sum_nil, gcat_i, gcat_r, gcat_l, Nat.reduceAdd, Nat.reduceLeDiff, Nat.zero_le, Option.toList, List.cons_append, List.nil_append, gnk_i, gnk_r, gnk_n, gi_1, Nat.reduceLT, if_true, if_false]
  have hl2 := hA.2.2.1
  refine c_add hf hA2.2.2.2 (by rw [List.length_append]; have := hA2.2.1; omega) (3, 0, 0) rfl rfl rfl (fun s2 hF3 h8 hK => ?_)
  simp only [E_X1_single_0, E_X1_single_1, E_X1_single_4, E_X1_single_5, E_X1_single_6, E_X1_single_8, E_X1_single_11, E_X1_single_12, E_X1_single_14, E_X1_single_17, E_X1_single_18, E_X1_single_21, E_X1_single_22, E_X1_single_23, E_X1_single_24, E_X1_single_27, E_X1_single_28, E_X1_single_29, E_X1_single_30, E_X1_single_31, E_X1_single_34, E_X1_single_35, E_X1_single_36, E_X1_single_39, E_X1_single_40, E_X1_single_42, E_X1_single_45, E_X1_single_46, E_X1_single_47, E_X1_single_48, E_X1_single_49, E_X1_single_52, E_X1_single_55, E_X1_single_56, E_X1_single_58, E_X1_single_61, E_X1_single_64, E_X1_single_65, E_X1_single_68, E_X1_single_69, E_X1_single_70, E_X1_single_71, E_X1_single_72, E_X1_single_73, E_X1_single_74, E_X1_single_77, E_X1_single_80, E_X1_single_81, E_X1_single_82, E_X1_single_83, E_X1_single_84, E_X1_single_85, E_X1_single_86, E_X1_single_89, E_X1_single_90, gb_n1, List.map_nil, List.map_cons, List.sum_cons, List.sum_nil, gcat_i, gcat_r, gcat_l, Nat.reduceAdd, Nat.reduceLeDiff, Nat.zero_le, Option.toList, List.cons_append, List.nil_append, gnk_i, gnk_r, gnk_n, gi_1, Nat.reduceLT, if_true, if_false]
  refine hQ s2 (cF_trans hF1 (cF_trans hF2 hF3)) ⟨h8.trans hA2.1, hA2.2.1, ?_, ?_⟩
  · rw [List.length_append, List.length_append]
    show ts.length + (u.length + 1) ≤ a1
    omega
  · rw [List.append_assoc] at hK
    exact hK
theorem c_s_notN (h : xt n b a = 33) (hk : k < 4) (h1 : cNo w f n b 15 0 dm [some (.ref f), some (.int (nI (k + 1))), none] (a + 1) a1) : cNo w f n b 15 0 (dm + 1) [some (.ref f), some (.int (nI k)), none] a a1 := by
  intro d s ts Q hd hB hA hQ
  obtain ⟨d, rfl⟩ : ∃ e, d = e + 1 := ⟨d - 1, by omega⟩
  have hf := hB.1
  have h100 := hB.2.1
  have ha : a < n := xt_lt (b := b) (by omega)
  have e4 : nI k < 4 := nI_lt (b := 4) hk (by decide)
  have hA1 : cA f n (gm_si s f 8 (nI (a + 1))) (a + 1) ts := cA_8 hA (by omega) (by omega)
  have hF1 : cF f s (gm_si s f 8 (nI (a + 1))) := cF_si (by decide)
  have hB1 := cB_F hB hF1
  have e : xn n b a = 33 := (xn_of (by omega)).trans (by rw [h]; rfl)
  rw [E_X1_single_0]
  simp (decide := true) only [E_X1_single_1, E_X1_single_4, E_X1_single_5, E_X1_single_6, E_X1_single_8, E_X1_single_11, E_X1_single_12, E_X1_single_14, E_X1_single_17, E_X1_single_18, E_X1_single_21, E_X1_single_22, E_X1_single_23, E_X1_single_24, E_X1_single_27, E_X1_single_28, E_X1_single_29, E_X1_single_30, E_X1_single_31, E_X1_single_34, E_X1_single_35, E_X1_single_36, E_X1_single_39, E_X1_single_40, E_X1_single_42, E_X1_single_45, E_X1_single_46, E_X1_single_47, E_X1_single_48, E_X1_single_49, E_X1_single_52, E_X1_single_55, E_X1_single_56, E_X1_single_58, E_X1_single_61, E_X1_single_64, E_X1_single_65, E_X1_single_68, E_X1_single_69, E_X1_single_70, E_X1_single_71, E_X1_single_72, E_X1_single_73, E_X1_single_74, E_X1_single_77, E_X1_single_80, E_X1_single_81, E_X1_single_82, E_X1_single_83, E_X1_single_84, E_X1_single_85, E_X1_single_86, E_X1_single_89, E_X1_single_90, gF_cl hf, gF_gok hf, Fg_8 hf, Fp_8 hf, c_next hB hA.1 hA.2.1, e, e4, hA.1, nI_1, List.map_nil, List.map_cons, List.sum_cons, List.sum_nil, gcat_i, gcat_r, gcat_l, Nat.reduceAdd, Nat.reduceLeDiff, Nat.zero_le, Option.toList, List.cons_append, List.nil_append, gnk_i, gnk_r, gnk_n, gi_1, Nat.reduceLT, if_true, if_false]
  refine h1 d _ ts _ (by omega) hB1 hA1 (fun s1 hF2 hA2 => ?_)
  simp only [E_X1_single_0, E_X1_single_1, E_X1_single_4, E_X1_single_5, E_X1_single_6, E_X1_single_8, E_X1_single_11, E_X1_single_12, E_X1_single_14, E_X1_single_17, E_X1_single_18, E_X1_single_21, E_X1_single_22, E_X1_single_23, E_X1_single_24, E_X1_single_27, E_X1_single_28, E_X1_single_29, E_X1_single_30, E_X1_single_31, E_X1_single_34, E_X1_single_35, E_X1_single_36, E_X1_single_39, E_X1_single_40, E_X1_single_42, E_X1_single_45, E_X1_single_46, E_X1_single_47, E_X1_single_48, E_X1_single_49, E_X1_single_52, E_X1_single_55, E_X1_single_56, E_X1_single_58, E_X1_single_61, E_X1_single_64, E_X1_single_65, E_X1_single_68, E_X1_single_69, E_X1_single_70, E_X1_single_71, E_X1_single_72, E_X1_single_73, E_X1_single_74, E_X1_single_77, E_X1_single_80, E_X1_single_81, E_X1_single_82, E_X1_single_83, E_X1_single_84, E_X1_single_85, E_X1_single_86, E_X1_single_89, E_X1_single_90, gb_n0, List.map_nil, List.map_cons, List.sum_cons, List.sum_nil, gcat_i, gcat_r, gcat_l, Nat.reduceAdd, Nat.reduceLeDiff, Nat.zero_le, Option.toList, List.cons_append, List.nil_append, gnk_i, gnk_r, gnk_n, gi_1, Nat.reduceLT, if_true, if_false]
  exact hQ s1 (cF_trans hF1 hF2) hA2
theorem c_s_par (h : xt n b a = 40) (hk : k < 4) (h1 : cOk w f n b 13 0 dm [some (.ref f), some (.int (nI (k + 1))), none] (a + 1) a1 u) (hg : a + 1 + u.length ≤ a1) (h2 : xt n b a1 = 41) (hdm : 2 ≤ dm) : cOk w f n b 15 0 (dm + 1) [some (.ref f), some (.int (nI k)), none] a (a1 + 1) u := by
  intro d s ts Q hd hB hA hQ
  obtain ⟨d, rfl⟩ : ∃ e, d = e + 2 := ⟨d - 2, by omega⟩
  have hf := hB.1
  have h100 := hB.2.1
  have ha : a < n := xt_lt (b := b) (by omega)
  have e4 : nI k < 4 := nI_lt (b := 4) hk (by decide)
  have hA1 : cA f n (gm_si s f 8 (nI (a + 1))) (a + 1) ts := cA_8 hA (by omega) (by omega)
  have hF1 : cF f s (gm_si s f 8 (nI (a + 1))) := cF_si (by decide)
  have hB1 := cB_F hB hF1
  have e : xn n b a = 40 := (xn_of (by omega)).trans (by rw [h]; rfl)
  have ha1 : a1 < n := xt_lt (b := b) (by omega)
  simp (decide := true) only [E_X1_single_0, E_X1_single_1, E_X1_single_4, E_X1_single_5, E_X1_single_6, E_X1_single_8, E_X1_single_11, E_X1_single_12, E_X1_single_14, E_X1_single_17, E_X1_single_18, E_X1_single_21, E_X1_single_22, E_X1_single_23, E_X1_single_24, E_X1_single_27, E_X1_single_28, E_X1_single_29, E_X1_single_30, E_X1_single_31, E_X1_single_34, E_X1_single_35, E_X1_single_36, E_X1_single_39, E_X1_single_40, E_X1_single_42, E_X1_single_45, E_X1_single_46, E_X1_single_47, E_X1_single_48, E_X1_single_49, E_X1_single_52, E_X1_single_55, E_X1_single_56, E_X1_single_58, E_X1_single_61, E_X1_single_64, E_X1_single_65, E_X1_single_68, E_X1_single_69, E_X1_single_70, E_X1_single_71, E_X1_single_72, E_X1_single_73, E_X1_single_74, E_X1_single_77, E_X1_single_80, E_X1_single_81, E_X1_single_82, E_X1_single_83, E_X1_single_84, E_X1_single_85, E_X1_single_86, E_X1_single_89, E_X1_single_90, gF_cl hf, gF_gok hf, Fg_8 hf, Fp_8 hf, c_next hB hA.1 hA.2.1, e, e4, hA.1, nI_1, List.map_nil, List.map_cons, List.sum_cons, List.sum_nil, gcat_i, gcat_r, gcat_l, Nat.reduceAdd, Nat.reduceLeDiff, Nat.zero_le, Option.toList, List.cons_append, List.nil_append, gnk_i, gnk_r, gnk_n, gi_1, Nat.reduceLT, if_true, if_false]
  refine h1 (d + 1) _ ts _ (by omega) hB1 hA1 (fun s1 hF2 hA2 => ?_)
  have hB2 := cB_F hB1 hF2
  have hs := fun (Q : Option Value → gc_M → Prop) => c_sign (w := w) (d := d) (c := 41) (Q := Q) hB2 hA2.1 hA2.2.1 (by decide) (by decide)
  simp only [h2, if_true] at hs
  have hs : ∀ Q, gc_X w (d + 1) 20 0 [some (.ref f), some (.int 41)] [] (gm_m s1) Q = Q (some (.int 1)) (gm_m (gm_si s1 f 8 (nI (a1 + 1)))) := hs
  simp only [E_X1_single_0, E_X1_single_1, E_X1_single_4, E_X1_single_5, E_X1_single_6, E_X1_single_8, E_X1_single_11, E_X1_single_12, E_X1_single_14, E_X1_single_17, E_X1_single_18, E_X1_single_21, E_X1_single_22, E_X1_single_23, E_X1_single_24, E_X1_single_27, E_X1_single_28, E_X1_single_29, E_X1_single_30, E_X1_single_31, E_X1_single_34, E_X1_single_35, E_X1_single_36, E_X1_single_39, E_X1_single_40, E_X1_single_42, E_X1_single_45, E_X1_single_46, E_X1_single_47, E_X1_single_48, E_X1_single_49, E_X1_single_52, E_X1_single_55, E_X1_single_56, E_X1_single_58, E_X1_single_61, E_X1_single_64, E_X1_single_65, E_X1_single_68, E_X1_single_69, E_X1_single_70, E_X1_single_71, E_X1_single_72, E_X1_single_73, E_X1_single_74, E_X1_single_77, E_X1_single_80, E_X1_single_81, E_X1_single_82, E_X1_single_83, E_X1_single_84, E_X1_single_85, E_X1_single_86, E_X1_single_89, E_X1_single_90, gF_cl hf, hs, g1_0, gb_n1, List.map_nil, List.map_cons, List.sum_cons, List.sum_nil, gcat_i, gcat_r, gcat_l, Nat.reduceAdd, Nat.reduceLeDiff, Nat.zero_le, Option.toList, List.cons_append, List.nil_append, gnk_i, gnk_r, gnk_n, gi_1, Nat.reduceLT, if_true, if_false]
  exact hQ _ (cF_trans hF1 (cF_trans hF2 (cF_si (by decide)))) (cA_8 hA2 (by omega) (by omega))
theorem c_s_parN1 (h : xt n b a = 40) (hk : k < 4) (h1 : cNo w f n b 13 0 dm [some (.ref f), some (.int (nI (k + 1))), none] (a + 1) a1) : cNo w f n b 15 0 (dm + 1) [some (.ref f), some (.int (nI k)), none] a a1 := by
  intro d s ts Q hd hB hA hQ
  obtain ⟨d, rfl⟩ : ∃ e, d = e + 1 := ⟨d - 1, by omega⟩
  have hf := hB.1
  have h100 := hB.2.1
  have ha : a < n := xt_lt (b := b) (by omega)
  have e4 : nI k < 4 := nI_lt (b := 4) hk (by decide)
  have hA1 : cA f n (gm_si s f 8 (nI (a + 1))) (a + 1) ts := cA_8 hA (by omega) (by omega)
  have hF1 : cF f s (gm_si s f 8 (nI (a + 1))) := cF_si (by decide)
  have hB1 := cB_F hB hF1
  have e : xn n b a = 40 := (xn_of (by omega)).trans (by rw [h]; rfl)
  simp (decide := true) only [E_X1_single_0, E_X1_single_1, E_X1_single_4, E_X1_single_5, E_X1_single_6, E_X1_single_8, E_X1_single_11, E_X1_single_12, E_X1_single_14, E_X1_single_17, E_X1_single_18, E_X1_single_21, E_X1_single_22, E_X1_single_23, E_X1_single_24, E_X1_single_27, E_X1_single_28, E_X1_single_29, E_X1_single_30, E_X1_single_31, E_X1_single_34, E_X1_single_35, E_X1_single_36, E_X1_single_39, E_X1_single_40, E_X1_single_42, E_X1_single_45, E_X1_single_46, E_X1_single_47, E_X1_single_48, E_X1_single_49, E_X1_single_52, E_X1_single_55, E_X1_single_56, E_X1_single_58, E_X1_single_61, E_X1_single_64, E_X1_single_65, E_X1_single_68, E_X1_single_69, E_X1_single_70, E_X1_single_71, E_X1_single_72, E_X1_single_73, E_X1_single_74, E_X1_single_77, E_X1_single_80, E_X1_single_81, E_X1_single_82, E_X1_single_83, E_X1_single_84, E_X1_single_85, E_X1_single_86, E_X1_single_89, E_X1_single_90, gF_cl hf, gF_gok hf, Fg_8 hf, Fp_8 hf, c_next hB hA.1 hA.2.1, e, e4, hA.1, nI_1, List.map_nil, List.map_cons, List.sum_cons, List.sum_nil, gcat_i, gcat_r, gcat_l, Nat.reduceAdd, Nat.reduceLeDiff, Nat.zero_le, Option.toList, List.cons_append, List.nil_append, gnk_i, gnk_r, gnk_n, gi_1, Nat.reduceLT, if_true, if_false]
  refine h1 d _ ts _ (by omega) hB1 hA1 (fun s1 hF2 hA2 => ?_)
  simp only [E_X1_single_0, E_X1_single_1, E_X1_single_4, E_X1_single_5, E_X1_single_6, E_X1_single_8, E_X1_single_11, E_X1_single_12, E_X1_single_14, E_X1_single_17, E_X1_single_18, E_X1_single_21, E_X1_single_22, E_X1_single_23, E_X1_single_24, E_X1_single_27, E_X1_single_28, E_X1_single_29, E_X1_single_30, E_X1_single_31, E_X1_single_34, E_X1_single_35, E_X1_single_36, E_X1_single_39, E_X1_single_40, E_X1_single_42, E_X1_single_45, E_X1_single_46, E_X1_single_47, E_X1_single_48, E_X1_single_49, E_X1_single_52, E_X1_single_55, E_X1_single_56, E_X1_single_58, E_X1_single_61, E_X1_single_64, E_X1_single_65, E_X1_single_68, E_X1_single_69, E_X1_single_70, E_X1_single_71, E_X1_single_72, E_X1_single_73, E_X1_single_74, E_X1_single_77, E_X1_single_80, E_X1_single_81, E_X1_single_82, E_X1_single_83, E_X1_single_84, E_X1_single_85, E_X1_single_86, E_X1_single_89, E_X1_single_90, gb_n0, List.map_nil, List.map_cons, List.sum_cons, List.sum_nil, gcat_i, gcat_r, gcat_l, Nat.reduceAdd, Nat.reduceLeDiff, Nat.zero_le, Option.toList, List.cons_append, List.nil_append, gnk_i, gnk_r, gnk_n, gi_1, Nat.reduceLT, if_true, if_false]
  exact hQ s1 (cF_trans hF1 hF2) hA2
theorem c_s_parN2 (h : xt n b a = 40) (hk : k < 4) (h1 : cOk w f n b 13 0 dm [some (.ref f), some (.int (nI (k + 1))), none] (a + 1) a1 u) (h2 : xt n b a1 ≠ 41) (hdm : 2 ≤ dm) : cNo w f n b 15 0 (dm + 1) [some (.ref f), some (.int (nI k)), none] a a1 := by
  intro d s ts Q hd hB hA hQ
  obtain ⟨d, rfl⟩ : ∃ e, d = e + 2 := ⟨d - 2, by omega⟩
  have hf := hB.1
  have h100 := hB.2.1
  have ha : a < n := xt_lt (b := b) (by omega)
  have e4 : nI k < 4 := nI_lt (b := 4) hk (by decide)
  have hA1 : cA f n (gm_si s f 8 (nI (a + 1))) (a + 1) ts := cA_8 hA (by omega) (by omega)
  have hF1 : cF f s (gm_si s f 8 (nI (a + 1))) := cF_si (by decide)
  have hB1 := cB_F hB hF1
  have e : xn n b a = 40 := (xn_of (by omega)).trans (by rw [h]; rfl)
  simp (decide := true) only [E_X1_single_0, E_X1_single_1, E_X1_single_4, E_X1_single_5, E_X1_single_6, E_X1_single_8, E_X1_single_11, E_X1_single_12, E_X1_single_14, E_X1_single_17, E_X1_single_18, E_X1_single_21, E_X1_single_22, E_X1_single_23, E_X1_single_24, E_X1_single_27, E_X1_single_28, E_X1_single_29, E_X1_single_30, E_X1_single_31, E_X1_single_34, E_X1_single_35, E_X1_single_36, E_X1_single_39, E_X1_single_40, E_X1_single_42, E_X1_single_45, E_X1_single_46, E_X1_single_47, E_X1_single_48, E_X1_single_49, E_X1_single_52, E_X1_single_55, E_X1_single_56, E_X1_single_58, E_X1_single_61, E_X1_single_64, E_X1_single_65, E_X1_single_68, E_X1_single_69, E_X1_single_70, E_X1_single_71, E_X1_single_72, E_X1_single_73, E_X1_single_74, E_X1_single_77, E_X1_single_80, E_X1_single_81, E_X1_single_82, E_X1_single_83, E_X1_single_84, E_X1_single_85, E_X1_single_86, E_X1_single_89, E_X1_single_90, gF_cl hf, gF_gok hf, Fg_8 hf, Fp_8 hf, c_next hB hA.1 hA.2.1, e, e4, hA.1, nI_1, List.map_nil, List.map_cons, List.sum_cons, List.sum_nil, gcat_i, gcat_r, gcat_l, Nat.reduceAdd, Nat.reduceLeDiff, Nat.zero_le, Option.toList, List.cons_append, List.nil_append, gnk_i, gnk_r, gnk_n, gi_1, Nat.reduceLT, if_true, if_false]
  refine h1 (d + 1) _ ts _ (by omega) hB1 hA1 (fun s1 hF2 hA2 => ?_)
  have hB2 := cB_F hB1 hF2
  have hs := fun (Q : Option Value → gc_M → Prop) => c_sign (w := w) (d := d) (c := 41) (Q := Q) hB2 hA2.1 hA2.2.1 (by decide) (by decide)
  simp only [h2, if_false] at hs
  have hs : ∀ Q, gc_X w (d + 1) 20 0 [some (.ref f), some (.int 41)] [] (gm_m s1) Q = Q (some (.int 0)) (gm_m s1) := hs
  simp only [E_X1_single_0, E_X1_single_1, E_X1_single_4, E_X1_single_5, E_X1_single_6, E_X1_single_8, E_X1_single_11, E_X1_single_12, E_X1_single_14, E_X1_single_17, E_X1_single_18, E_X1_single_21, E_X1_single_22, E_X1_single_23, E_X1_single_24, E_X1_single_27, E_X1_single_28, E_X1_single_29, E_X1_single_30, E_X1_single_31, E_X1_single_34, E_X1_single_35, E_X1_single_36, E_X1_single_39, E_X1_single_40, E_X1_single_42, E_X1_single_45, E_X1_single_46, E_X1_single_47, E_X1_single_48, E_X1_single_49, E_X1_single_52, E_X1_single_55, E_X1_single_56, E_X1_single_58, E_X1_single_61, E_X1_single_64, E_X1_single_65, E_X1_single_68, E_X1_single_69, E_X1_single_70, E_X1_single_71, E_X1_single_72, E_X1_single_73, E_X1_single_74, E_X1_single_77, E_X1_single_80, E_X1_single_81, E_X1_single_82, E_X1_single_83, E_X1_single_84, E_X1_single_85, E_X1_single_86, E_X1_single_89, E_X1_single_90, gF_cl hf, hs, g1_0, gb_n0, List.map_nil, List.map_cons, List.sum_cons, List.sum_nil, gcat_i, gcat_r, gcat_l, Nat.reduceAdd, Nat.reduceLeDiff, Nat.zero_le, Option.toList, List.cons_append, List.nil_append, gnk_i, gnk_r, gnk_n, gi_1, Nat.reduceLT, if_true, if_false]
  exact hQ _ (cF_trans hF1 hF2) hA2.1
end
