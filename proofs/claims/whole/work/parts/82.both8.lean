/-! both sides: item, read -/
theorem gI_pr60 : ∀ n, n ≤ 60 → (nI n - 1).toInt = (n : Int) - 1 := by decide +kernel
theorem gB_of60 {n : Nat} {x : Int32} (h : n ≤ 60) : gB_in x 0 (nI n - 1) = gA_of n x := by
  unfold gB_in gA_of
  have e : (nI n - 1 < x) = (nI n ≤ x) := by
    rw [gx_lt, gx_le, gI_pr60 n h]
    have e2 : (nI n).toInt = n := Int32.toInt_ofNat_of_lt (by omega)
    rw [e2]
    exact propext ⟨fun h => by omega, fun h => by omega⟩
  simp only [e]
theorem nI_m1k : ∀ k, k < 5 → (nI k = -1) = False := fun k h => eq_false (nI_nm1 (by omega))
theorem tap_neg : (0 : Int32) ≤ -1 ↔ False := by decide
section
variable {w : Nat × (Nat → Int32)} {s : gm_S} {x y z : Int32} {v : Int64}
theorem i_noL {c m : Nat} {Lc Lm : gc_L} (h : gInv s) (v : Int64) (e1 : ∀ Q, gc_X w 40 c 0 Lc [] (gm_m s) Q = Q (some (.long v)) (gm_m s)) (e2 : ∀ Q, gc_X w 40 m 0 Lm [] (gm_m s) Q = Q (some (.long v)) (gm_m s)) : gBothL w c m Lc Lm s := by
  unfold gBothL
  rw [e1]
  refine ⟨s, rfl, ?_⟩
  rw [e2]
  exact ⟨s, rfl, rfl, ⟨_, rfl⟩, h⟩
theorem i_item (h : gInv s) : gBoth w 95 201 [some (.ref 0), some (.int x), some (.int y), some (.long v), none, none] [some (.ref 137), some (.int x), some (.int y), some (.long v), none] s := by
  have h0 := h
  obtain ⟨φ, p, cu, cs, f, l1, l2, l3, h⟩ := gInv_I h
  have hw := fun (s : gm_S) (a b : Int32) (Q : Option Value → gc_M → Prop) => c_within (w := w) (d := 39) (s := s) (x := a) (y := b) (Q := Q)
  have hin := fun (a b c : Int32) (s : gm_S) (Q : Option Value → gc_M → Prop) => m_in (w := w) (d := 39) (s := s) (x := a) (y := b) (z := c) (Q := Q)
  have mit := fun (s : gm_S) (a : Int32) (Q : Option Value → gc_M → Prop) => m_isTape (w := w) (d := 38) (s := s) (x := a) (Q := Q)
  cases b1 : gB_in x 0 5 with
  | false =>
    refine i_no h0 (-1) (fun Q => ?_) (fun Q => ?_)
    · simp only [E_X11_item_0, E_X11_item_1, E_X11_item_2, E_X11_item_5, E_X11_item_8, E_X11_item_9, E_X11_item_10, E_X11_item_11, E_X11_item_14, E_X11_item_15, E_X11_item_16, E_X11_item_18, E_X11_item_20, E_X11_item_23, E_X11_item_24, E_X11_item_27, E_X11_item_29, E_X11_item_30, E_X11_item_31, E_X11_item_34, E_X11_item_35, E_X11_item_37, E_X11_item_40, E_X11_item_43, E_X11_item_45, E_X11_item_46, E_X11_item_48, E_X11_item_51, E_X11_item_52, E_X11_item_54, E_X11_item_55, E_X11_item_58, E_X11_item_59, E_X11_item_60, hw, b1, gb_0, List.map_nil, List.map_cons, List.sum_cons, List.sum_nil, gcat_i, gcat_r, gcat_l, Nat.reduceAdd, Nat.reduceLeDiff, Nat.zero_le, Option.toList, List.cons_append, List.nil_append, gnk_i, gnk_r, gnk_n, gi_1, Nat.reduceLT, if_true, if_false]
    · simp only [E_X12_item_0, E_X12_item_1, E_X12_item_2, E_X12_item_5, E_X12_item_8, E_X12_item_9, E_X12_item_10, E_X12_item_11, E_X12_item_14, E_X12_item_15, E_X12_item_16, E_X12_item_19, E_X12_item_21, E_X12_item_22, E_X12_item_23, E_X12_item_24, E_X12_item_25, E_X12_item_26, E_X12_item_29, E_X12_item_30, E_X12_item_31, E_X12_item_32, E_X12_item_33, E_X12_item_36, E_X12_item_39, E_X12_item_41, E_X12_item_42, E_X12_item_43, E_X12_item_46, E_X12_item_48, E_X12_item_49, E_X12_item_50, E_X12_item_51, E_X12_item_52, E_X12_item_53, E_X12_item_54, E_X12_item_57, E_X12_item_58, E_X12_item_59, E_X12_item_60, E_X12_item_63, E_X12_item_64, E_X12_item_65, rc_137, mit, b1, gb_0, List.map_nil, List.map_cons, List.sum_cons, List.sum_nil, gcat_i, gcat_r, gcat_l, Nat.reduceAdd, Nat.reduceLeDiff, Nat.zero_le, Option.toList, List.cons_append, List.nil_append, gnk_i, gnk_r, gnk_n, gi_1, Nat.reduceLT, if_true, if_false]
  | true =>
    obtain ⟨t, ht, e1⟩ := gB_in_ex (k := 5) b1 (by decide)
    have ht6 : t < 6 := by omega
    subst e1
    have i1 : vp_in (nI t) 6 := vp_in_nI (by omega) (by omega)
    have i2 : (nI t).toNatClampNeg = t := nI_clamp (by omega)
    have q1 := fun s : gm_S => gm_ri_rok (tp_ri (s := s) ht6)
    have q2 := fun s : gm_S => gm_ri_rr (tp_ri (s := s) ht6)
    rw [i2] at q2
    obtain ⟨so, n, r1, r2, r3, r4, r5, r6, r7⟩ := gI_t1 h t ht6
    have hln : 52 + 2 * t < 1000000 := by omega
    rcases r6 with ⟨es, en⟩ | ⟨k, hk, es⟩
    · subst es en
      have ng : ¬ (0 : Int32) ≤ -1 := by decide
      refine i_no h0 (-11) (fun Q => ?_) (fun Q => ?_)
      · simp only [E_X11_item_0, E_X11_item_1, E_X11_item_2, E_X11_item_5, E_X11_item_8, E_X11_item_9, E_X11_item_10, E_X11_item_11, E_X11_item_14, E_X11_item_15, E_X11_item_16, E_X11_item_18, E_X11_item_20, E_X11_item_23, E_X11_item_24, E_X11_item_27, E_X11_item_29, E_X11_item_30, E_X11_item_31, E_X11_item_34, E_X11_item_35, E_X11_item_37, E_X11_item_40, E_X11_item_43, E_X11_item_45, E_X11_item_46, E_X11_item_48, E_X11_item_51, E_X11_item_52, E_X11_item_54, E_X11_item_55, E_X11_item_58, E_X11_item_59, E_X11_item_60, rk_0, rg_0_16, tk_ok ht6, tg_0 ht6, r1, q1, q2, i2, hw, b1, gb_1, g1_0, List.map_nil, List.map_cons, List.sum_cons, List.sum_nil, gcat_i, gcat_r, gcat_l, Nat.reduceAdd, Nat.reduceLeDiff, Nat.zero_le, Option.toList, List.cons_append, List.nil_append, gnk_i, gnk_r, gnk_n, gi_1, Nat.reduceLT, if_true, if_false]
      · simp only [E_X12_item_0, E_X12_item_1, E_X12_item_2, E_X12_item_5, E_X12_item_8, E_X12_item_9, E_X12_item_10, E_X12_item_11, E_X12_item_14, E_X12_item_15, E_X12_item_16, E_X12_item_19, E_X12_item_21, E_X12_item_22, E_X12_item_23, E_X12_item_24, E_X12_item_25, E_X12_item_26, E_X12_item_29, E_X12_item_30, E_X12_item_31, E_X12_item_32, E_X12_item_33, E_X12_item_36, E_X12_item_39, E_X12_item_41, E_X12_item_42, E_X12_item_43, E_X12_item_46, E_X12_item_48, E_X12_item_49, E_X12_item_50, E_X12_item_51, E_X12_item_52, E_X12_item_53, E_X12_item_54, E_X12_item_57, E_X12_item_58, E_X12_item_59, E_X12_item_60, E_X12_item_63, E_X12_item_64, E_X12_item_65, rk_137, rc_137, rg_137_75, ra_188, rv_188, r2, ng, i1, i2, mit, b1, gb_1, g1_0, List.map_nil, List.map_cons, List.sum_cons, List.sum_nil, gcat_i, gcat_r, gcat_l, Nat.reduceAdd, Nat.reduceLeDiff, Nat.zero_le, Option.toList, List.cons_append, List.nil_append, gnk_i, gnk_r, gnk_n, gi_1, Nat.reduceLT, if_true, if_false]
    · subst es
      have km := nI_m1k k hk
      have kp : (0 : Int32) ≤ nI k := nI_pos' (by omega)
      have hob := gB_of60 (x := y) r5
      cases b2 : gA_of n y with
      | false =>
        rw [b2] at hob
        have hm : ∀ Q, gc_X w 40 201 0 [some (.ref 137), some (.int (nI t)), some (.int y), some (.long v), none] [] (gm_m s) Q = Q (some (.int (-13))) (gm_m s) := by
          intro Q
          simp only [E_X12_item_0, E_X12_item_1, E_X12_item_2, E_X12_item_5, E_X12_item_8, E_X12_item_9, E_X12_item_10, E_X12_item_11, E_X12_item_14, E_X12_item_15, E_X12_item_16, E_X12_item_19, E_X12_item_21, E_X12_item_22, E_X12_item_23, E_X12_item_24, E_X12_item_25, E_X12_item_26, E_X12_item_29, E_X12_item_30, E_X12_item_31, E_X12_item_32, E_X12_item_33, E_X12_item_36, E_X12_item_39, E_X12_item_41, E_X12_item_42, E_X12_item_43, E_X12_item_46, E_X12_item_48, E_X12_item_49, E_X12_item_50, E_X12_item_51, E_X12_item_52, E_X12_item_53, E_X12_item_54, E_X12_item_57, E_X12_item_58, E_X12_item_59, E_X12_item_60, E_X12_item_63, E_X12_item_64, E_X12_item_65, rk_137, rc_137, rg_137_75, rg_137_76, ra_188, rv_188, ra_189, rv_189, r2, r4, kp, hob, hin, i1, i2, mit, b1, gb_0, gb_1, g1_0, List.map_nil, List.map_cons, List.sum_cons, List.sum_nil, gcat_i, gcat_r, gcat_l, Nat.reduceAdd, Nat.reduceLeDiff, Nat.zero_le, Option.toList, List.cons_append, List.nil_append, gnk_i, gnk_r, gnk_n, gi_1, Nat.reduceLT, if_true, if_false]
        refine i_no h0 (-13) (fun Q => ?_) hm
        by_cases y0 : y < 0
        · simp only [E_X11_item_0, E_X11_item_1, E_X11_item_2, E_X11_item_5, E_X11_item_8, E_X11_item_9, E_X11_item_10, E_X11_item_11, E_X11_item_14, E_X11_item_15, E_X11_item_16, E_X11_item_18, E_X11_item_20, E_X11_item_23, E_X11_item_24, E_X11_item_27, E_X11_item_29, E_X11_item_30, E_X11_item_31, E_X11_item_34, E_X11_item_35, E_X11_item_37, E_X11_item_40, E_X11_item_43, E_X11_item_45, E_X11_item_46, E_X11_item_48, E_X11_item_51, E_X11_item_52, E_X11_item_54, E_X11_item_55, E_X11_item_58, E_X11_item_59, E_X11_item_60, rk_0, rg_0_16, tk_ok ht6, tg_0 ht6, r1, km, y0, q1, q2, i2, hw, b1, gb_1, g1_0, List.map_nil, List.map_cons, List.sum_cons, List.sum_nil, gcat_i, gcat_r, gcat_l, Nat.reduceAdd, Nat.reduceLeDiff, Nat.zero_le, Option.toList, List.cons_append, List.nil_append, gnk_i, gnk_r, gnk_n, gi_1, Nat.reduceLT, if_true, if_false]
        · have yl : ¬ y < nI n := by
            rcases kT1_ge r5 y0 with e | ⟨i, hi, e⟩
            · rw [gx_le] at e
              rw [gx_lt]
              omega
            · rw [e, gA_of_nI hi (by omega)] at b2
              cases b2
          simp only [E_X11_item_0, E_X11_item_1, E_X11_item_2, E_X11_item_5, E_X11_item_8, E_X11_item_9, E_X11_item_10, E_X11_item_11, E_X11_item_14, E_X11_item_15, E_X11_item_16, E_X11_item_18, E_X11_item_20, E_X11_item_23, E_X11_item_24, E_X11_item_27, E_X11_item_29, E_X11_item_30, E_X11_item_31, E_X11_item_34, E_X11_item_35, E_X11_item_37, E_X11_item_40, E_X11_item_43, E_X11_item_45, E_X11_item_46, E_X11_item_48, E_X11_item_51, E_X11_item_52, E_X11_item_54, E_X11_item_55, E_X11_item_58, E_X11_item_59, E_X11_item_60, rk_0, rg_0_16, tk_ok ht6, tg_0 ht6, tg_1 ht6, r1, r3, km, y0, yl, q1, q2, i2, hw, b1, gb_1, g1_0, List.map_nil, List.map_cons, List.sum_cons, List.sum_nil, gcat_i, gcat_r, gcat_l, Nat.reduceAdd, Nat.reduceLeDiff, Nat.zero_le, Option.toList, List.cons_append, List.nil_append, gnk_i, gnk_r, gnk_n, gi_1, Nat.reduceLT, if_true, if_false]
      | true =>
        rw [b2] at hob
        obtain ⟨i, hi, e⟩ := gA_of_ex b2 (by omega)
        subst e
        have y0 : ¬ nI i < 0 := nI_pos (by omega)
        have yl : nI i < nI n := nI_lt hi (by omega)
        have j1 : vp_in (nI i) 60 := vp_in_nI (by omega) (by omega)
        have j2 : (nI i).toNatClampNeg = i := nI_clamp (by omega)
        have e1 : (60 : Int32) * nI t = nI (60 * t) := gI_mul (a := 60)
        have e2 : nI (60 * t) + nI i = nI (60 * t + i) := nI_add _ _
        have j3 : vp_in (nI (60 * t + i)) 360 := vp_in_nI (by omega) (by omega)
        have j4 : (nI (60 * t + i)).toNatClampNeg = 60 * t + i := nI_clamp (by omega)
        have hcn := fun (Q : Option Value → gc_M → Prop) => c_narrow (w := w) (d := 39) (v := v) (Q := Q) ht6 r1 hk
        have hmn := fun (s : gm_S) (Q : Option Value → gc_M → Prop) => m_narrow (w := w) (d := 39) (s := s) (v := v) (Q := Q) hk
        unfold gBoth
        simp only [E_X11_item_0, E_X11_item_1, E_X11_item_2, E_X11_item_5, E_X11_item_8, E_X11_item_9, E_X11_item_10, E_X11_item_11, E_X11_item_14, E_X11_item_15, E_X11_item_16, E_X11_item_18, E_X11_item_20, E_X11_item_23, E_X11_item_24, E_X11_item_27, E_X11_item_29, E_X11_item_30, E_X11_item_31, E_X11_item_34, E_X11_item_35, E_X11_item_37, E_X11_item_40, E_X11_item_43, E_X11_item_45, E_X11_item_46, E_X11_item_48, E_X11_item_51, E_X11_item_52, E_X11_item_54, E_X11_item_55, E_X11_item_58, E_X11_item_59, E_X11_item_60, rk_0, rg_0_16, tk_ok ht6, tk_cl ht6, tg_0 ht6, tg_1 ht6, tg_2 ht6, tg_a ht6, tg_s ht6, r1, r3, km, y0, yl, j1, j2, hcn, q1, q2, i2, hw, b1, gb_1, g1_0, List.map_nil, List.map_cons, List.sum_cons, List.sum_nil, gcat_i, gcat_r, gcat_l, Nat.reduceAdd, Nat.reduceLeDiff, Nat.zero_le, Option.toList, List.cons_append, List.nil_append, gnk_i, gnk_r, gnk_n, gi_1, Nat.reduceLT, if_true, if_false]
        refine ⟨_, rfl, ?_⟩
        simp only [E_X12_item_0, E_X12_item_1, E_X12_item_2, E_X12_item_5, E_X12_item_8, E_X12_item_9, E_X12_item_10, E_X12_item_11, E_X12_item_14, E_X12_item_15, E_X12_item_16, E_X12_item_19, E_X12_item_21, E_X12_item_22, E_X12_item_23, E_X12_item_24, E_X12_item_25, E_X12_item_26, E_X12_item_29, E_X12_item_30, E_X12_item_31, E_X12_item_32, E_X12_item_33, E_X12_item_36, E_X12_item_39, E_X12_item_41, E_X12_item_42, E_X12_item_43, E_X12_item_46, E_X12_item_48, E_X12_item_49, E_X12_item_50, E_X12_item_51, E_X12_item_52, E_X12_item_53, E_X12_item_54, E_X12_item_57, E_X12_item_58, E_X12_item_59, E_X12_item_60, E_X12_item_63, E_X12_item_64, E_X12_item_65, rk_137, rc_137, rg_137_75, rg_137_76, rg_137_77, ra_188, rv_188, ra_189, rv_189, ra_190, rs_190, gsl_1, r2, r4, kp, hob, hin, hmn, e1, e2, j3, j4, i1, i2, mit, b1, gb_1, g1_0, List.map_nil, List.map_cons, List.sum_cons, List.sum_nil, gcat_i, gcat_r, gcat_l, Nat.reduceAdd, Nat.reduceLeDiff, Nat.zero_le, Option.toList, List.cons_append, List.nil_append, gnk_i, gnk_r, gnk_n, gi_1, Nat.reduceLT, if_true, if_false]
        refine ⟨_, rfl, (by first | exact trivial | rfl), ⟨_, rfl⟩, gI_P h (gTg_sl (gTg_sl gTg_rf)) (fun u hu => ?_)⟩
        obtain ⟨so, n', p1, p2, p3, p4, p5, p6, p7⟩ := gI_t1 h u hu
        refine ⟨so, n', p1, p2, p3, p4, p5, p6, fun j hj => ?_⟩
        rw [gsl_2, if_neg (fun e => by omega), gsl_2, gsl_2, gsl_2]
        by_cases e : u = t ∧ j = i
        · rw [if_pos ⟨by omega, e.2⟩, if_pos ⟨rfl, by omega⟩]
        · rw [if_neg (fun q => e ⟨by omega, q.2⟩), if_neg (fun q => e ⟨by omega, by omega⟩), if_neg (fun q => by omega)]
          exact p7 j hj
theorem i_read (h : gInv s) : gBothL w 96 202 [some (.ref 0), some (.int x), some (.int y), none] [some (.ref 137), some (.int x), some (.int y)] s := by
  have h0 := h
  obtain ⟨φ, p, cu, cs, f, l1, l2, l3, h⟩ := gInv_I h
  have hw := fun (s : gm_S) (a b : Int32) (Q : Option Value → gc_M → Prop) => c_within (w := w) (d := 39) (s := s) (x := a) (y := b) (Q := Q)
  have hin := fun (a b c : Int32) (s : gm_S) (Q : Option Value → gc_M → Prop) => m_in (w := w) (d := 39) (s := s) (x := a) (y := b) (z := c) (Q := Q)
  have mit := fun (s : gm_S) (a : Int32) (Q : Option Value → gc_M → Prop) => m_isTape (w := w) (d := 38) (s := s) (x := a) (Q := Q)
  cases b1 : gB_in x 0 5 with
  | false =>
    refine i_noL h0 gNO (fun Q => ?_) (fun Q => ?_)
    · simp only [E_X11_read_0, E_X11_read_1, E_X11_read_2, E_X11_read_5, E_X11_read_8, E_X11_read_11, E_X11_read_12, E_X11_read_13, E_X11_read_16, E_X11_read_17, E_X11_read_18, E_X11_read_19, E_X11_read_20, E_X11_read_23, E_X11_read_24, E_X11_read_25, E_X11_read_28, E_X11_read_31, E_X11_read_34, E_X11_read_37, E_X11_read_38, E_X11_read_41, E_X11_read_42, E_X11_read_43, hw, b1, gb_0, List.map_nil, List.map_cons, List.sum_cons, List.sum_nil, gcat_i, gcat_r, gcat_l, Nat.reduceAdd, Nat.reduceLeDiff, Nat.zero_le, Option.toList, List.cons_append, List.nil_append, gnk_i, gnk_r, gnk_n, gi_1, Nat.reduceLT, if_true, if_false]
      rfl
    · simp only [E_X12_read_0, E_X12_read_1, E_X12_read_2, E_X12_read_5, E_X12_read_8, E_X12_read_9, E_X12_read_12, E_X12_read_13, E_X12_read_14, E_X12_read_17, E_X12_read_18, E_X12_read_19, E_X12_read_20, E_X12_read_21, E_X12_read_24, E_X12_read_25, E_X12_read_26, E_X12_read_27, E_X12_read_28, E_X12_read_31, E_X12_read_34, E_X12_read_37, E_X12_read_40, E_X12_read_41, E_X12_read_44, E_X12_read_46, E_X12_read_47, E_X12_read_48, E_X12_read_49, E_X12_read_50, E_X12_read_51, rc_137, mit, b1, gb_0, List.map_nil, List.map_cons, List.sum_cons, List.sum_nil, gcat_i, gcat_r, gcat_l, Nat.reduceAdd, Nat.reduceLeDiff, Nat.zero_le, Option.toList, List.cons_append, List.nil_append, gnk_i, gnk_r, gnk_n, gi_1, Nat.reduceLT, if_true, if_false]
      rfl
  | true =>
    obtain ⟨t, ht, e1⟩ := gB_in_ex (k := 5) b1 (by decide)
    have ht6 : t < 6 := by omega
    subst e1
    have i1 : vp_in (nI t) 6 := vp_in_nI (by omega) (by omega)
    have i2 : (nI t).toNatClampNeg = t := nI_clamp (by omega)
    have q1 := gm_ri_rok (tp_ri (s := s) ht6)
    have q2 := gm_ri_rr (tp_ri (s := s) ht6)
    rw [i2] at q2
    obtain ⟨so, n, r1, r2, r3, r4, r5, r6, r7⟩ := gI_t1 h t ht6
    have hob := gB_of60 (x := y) r5
    cases b2 : gA_of n y with
    | false =>
      rw [b2] at hob
      have hm : ∀ Q, gc_X w 40 202 0 [some (.ref 137), some (.int (nI t)), some (.int y)] [] (gm_m s) Q = Q (some (.long gNO)) (gm_m s) := by
        intro Q
        by_cases hs : so < 0
        · simp only [E_X12_read_0, E_X12_read_1, E_X12_read_2, E_X12_read_5, E_X12_read_8, E_X12_read_9, E_X12_read_12, E_X12_read_13, E_X12_read_14, E_X12_read_17, E_X12_read_18, E_X12_read_19, E_X12_read_20, E_X12_read_21, E_X12_read_24, E_X12_read_25, E_X12_read_26, E_X12_read_27, E_X12_read_28, E_X12_read_31, E_X12_read_34, E_X12_read_37, E_X12_read_40, E_X12_read_41, E_X12_read_44, E_X12_read_46, E_X12_read_47, E_X12_read_48, E_X12_read_49, E_X12_read_50, E_X12_read_51, rk_137, rc_137, rg_137_75, ra_188, rv_188, r2, hs, i1, i2, mit, b1, gb_1, g1_0, List.map_nil, List.map_cons, List.sum_cons, List.sum_nil, gcat_i, gcat_r, gcat_l, Nat.reduceAdd, Nat.reduceLeDiff, Nat.zero_le, Option.toList, List.cons_append, List.nil_append, gnk_i, gnk_r, gnk_n, gi_1, Nat.reduceLT, if_true, if_false]
          rfl
        · simp only [E_X12_read_0, E_X12_read_1, E_X12_read_2, E_X12_read_5, E_X12_read_8, E_X12_read_9, E_X12_read_12, E_X12_read_13, E_X12_read_14, E_X12_read_17, E_X12_read_18, E_X12_read_19, E_X12_read_20, E_X12_read_21, E_X12_read_24, E_X12_read_25, E_X12_read_26, E_X12_read_27, E_X12_read_28, E_X12_read_31, E_X12_read_34, E_X12_read_37, E_X12_read_40, E_X12_read_41, E_X12_read_44, E_X12_read_46, E_X12_read_47, E_X12_read_48, E_X12_read_49, E_X12_read_50, E_X12_read_51, rk_137, rc_137, rg_137_75, rg_137_76, ra_188, rv_188, ra_189, rv_189, r2, r4, hs, hob, hin, i1, i2, mit, b1, gb_0, gb_1, g1_0, List.map_nil, List.map_cons, List.sum_cons, List.sum_nil, gcat_i, gcat_r, gcat_l, Nat.reduceAdd, Nat.reduceLeDiff, Nat.zero_le, Option.toList, List.cons_append, List.nil_append, gnk_i, gnk_r, gnk_n, gi_1, Nat.reduceLT, if_true, if_false]
          rfl
      refine i_noL h0 gNO (fun Q => ?_) hm
      by_cases y0 : y < 0
      · simp only [E_X11_read_0, E_X11_read_1, E_X11_read_2, E_X11_read_5, E_X11_read_8, E_X11_read_11, E_X11_read_12, E_X11_read_13, E_X11_read_16, E_X11_read_17, E_X11_read_18, E_X11_read_19, E_X11_read_20, E_X11_read_23, E_X11_read_24, E_X11_read_25, E_X11_read_28, E_X11_read_31, E_X11_read_34, E_X11_read_37, E_X11_read_38, E_X11_read_41, E_X11_read_42, E_X11_read_43, rk_0, rg_0_16, y0, q1, q2, i2, hw, b1, gb_1, g1_0, List.map_nil, List.map_cons, List.sum_cons, List.sum_nil, gcat_i, gcat_r, gcat_l, Nat.reduceAdd, Nat.reduceLeDiff, Nat.zero_le, Option.toList, List.cons_append, List.nil_append, gnk_i, gnk_r, gnk_n, gi_1, Nat.reduceLT, if_true, if_false]
        rfl
      · have yl : ¬ y < nI n := by
          rcases kT1_ge r5 y0 with e | ⟨i, hi, e⟩
          · rw [gx_le] at e
            rw [gx_lt]
            omega
          · rw [e, gA_of_nI hi (by omega)] at b2
            cases b2
        simp only [E_X11_read_0, E_X11_read_1, E_X11_read_2, E_X11_read_5, E_X11_read_8, E_X11_read_11, E_X11_read_12, E_X11_read_13, E_X11_read_16, E_X11_read_17, E_X11_read_18, E_X11_read_19, E_X11_read_20, E_X11_read_23, E_X11_read_24, E_X11_read_25, E_X11_read_28, E_X11_read_31, E_X11_read_34, E_X11_read_37, E_X11_read_38, E_X11_read_41, E_X11_read_42, E_X11_read_43, rk_0, rg_0_16, tk_ok ht6, tg_1 ht6, r3, y0, yl, q1, q2, i2, hw, b1, gb_1, g1_0, List.map_nil, List.map_cons, List.sum_cons, List.sum_nil, gcat_i, gcat_r, gcat_l, Nat.reduceAdd, Nat.reduceLeDiff, Nat.zero_le, Option.toList, List.cons_append, List.nil_append, gnk_i, gnk_r, gnk_n, gi_1, Nat.reduceLT, if_true, if_false]
        rfl
    | true =>
      rw [b2] at hob
      obtain ⟨i, hi, e⟩ := gA_of_ex b2 (by omega)
      subst e
      have hs : ¬ so < 0 := by
        rcases r6 with ⟨-, en⟩ | ⟨k, hk, es⟩
        · omega
        · rw [es]
          exact nI_pos (by omega)
      have y0 : ¬ nI i < 0 := nI_pos (by omega)
      have yl : nI i < nI n := nI_lt hi (by omega)
      have j1 : vp_in (nI i) 60 := vp_in_nI (by omega) (by omega)
      have j2 : (nI i).toNatClampNeg = i := nI_clamp (by omega)
      have e1 : (60 : Int32) * nI t = nI (60 * t) := gI_mul (a := 60)
      have e2 : nI (60 * t) + nI i = nI (60 * t + i) := nI_add _ _
      have j3 : vp_in (nI (60 * t + i)) 360 := vp_in_nI (by omega) (by omega)
      have j4 : (nI (60 * t + i)).toNatClampNeg = 60 * t + i := nI_clamp (by omega)
      refine i_noL h0 (s.2.2 190 (60 * t + i)) (fun Q => ?_) (fun Q => ?_)
      · simp only [E_X11_read_0, E_X11_read_1, E_X11_read_2, E_X11_read_5, E_X11_read_8, E_X11_read_11, E_X11_read_12, E_X11_read_13, E_X11_read_16, E_X11_read_17, E_X11_read_18, E_X11_read_19, E_X11_read_20, E_X11_read_23, E_X11_read_24, E_X11_read_25, E_X11_read_28, E_X11_read_31, E_X11_read_34, E_X11_read_37, E_X11_read_38, E_X11_read_41, E_X11_read_42, E_X11_read_43, rk_0, rg_0_16, tk_ok ht6, tg_1 ht6, tg_2 ht6, tg_a ht6, tg_v ht6, r3, r7 i (by omega), y0, yl, j1, j2, q1, q2, i2, hw, b1, gb_1, g1_0, List.map_nil, List.map_cons, List.sum_cons, List.sum_nil, gcat_i, gcat_r, gcat_l, Nat.reduceAdd, Nat.reduceLeDiff, Nat.zero_le, Option.toList, List.cons_append, List.nil_append, gnk_i, gnk_r, gnk_n, gi_1, Nat.reduceLT, if_true, if_false]
      · simp only [E_X12_read_0, E_X12_read_1, E_X12_read_2, E_X12_read_5, E_X12_read_8, E_X12_read_9, E_X12_read_12, E_X12_read_13, E_X12_read_14, E_X12_read_17, E_X12_read_18, E_X12_read_19, E_X12_read_20, E_X12_read_21, E_X12_read_24, E_X12_read_25, E_X12_read_26, E_X12_read_27, E_X12_read_28, E_X12_read_31, E_X12_read_34, E_X12_read_37, E_X12_read_40, E_X12_read_41, E_X12_read_44, E_X12_read_46, E_X12_read_47, E_X12_read_48, E_X12_read_49, E_X12_read_50, E_X12_read_51, rk_137, rc_137, rg_137_75, rg_137_76, rg_137_77, ra_188, rv_188, ra_189, rv_189, ra_190, rv_190, r2, r4, hs, hob, hin, e1, e2, j3, j4, i1, i2, mit, b1, gb_1, g1_0, List.map_nil, List.map_cons, List.sum_cons, List.sum_nil, gcat_i, gcat_r, gcat_l, Nat.reduceAdd, Nat.reduceLeDiff, Nat.zero_le, Option.toList, List.cons_append, List.nil_append, gnk_i, gnk_r, gnk_n, gi_1, Nat.reduceLT, if_true, if_false]
end
