/-! both sides: taken -/
theorem tk_in : ∀ a, a < 7 → gB_in (nI a) 0 6 = true := by decide
theorem tk_up : ∀ a, a < 7 → vp_in (nI a) 7 ∧ (nI a).toNatClampNeg = a := fun a h => ⟨vp_in_nI h (by omega), nI_clamp (by omega)⟩
theorem tk_ne : ∀ a, a < 7 → ∀ q, q < 7 → a ≠ q → ¬ nI a = nI q := by decide
section
variable {w : Nat × (Nat → Int32)} {s : gm_S} {x y : Int32} {d : Nat} {Q : Option Value → gc_M → Prop}
theorem tk_eq {q m : Nat} {l1 : Option Value} {K : Int32} (hq : q < 7) (hm : m < 7) : gc_X w (d + 1) 92 42 [some (.ref 0), l1, some (.int (nI q)), some (.int K), some (.int (nI q)), some (.int (nI m))] [] (gm_m s) Q = Q (some (.int K)) (gm_m s) := by
  have hge : ¬ (7 : Int32) ≤ nI m := nI_ge (b := 7) (by omega) (by omega)
  rw [E_X11_taken_42]
  simp only [E_X11_taken_0, E_X11_taken_1, E_X11_taken_3, E_X11_taken_6, E_X11_taken_9, E_X11_taken_11, E_X11_taken_12, E_X11_taken_13, E_X11_taken_16, E_X11_taken_17, E_X11_taken_20, E_X11_taken_23, E_X11_taken_25, E_X11_taken_26, E_X11_taken_27, E_X11_taken_30, E_X11_taken_33, E_X11_taken_34, E_X11_taken_35, E_X11_taken_36, E_X11_taken_37, E_X11_taken_39, E_X11_taken_40, E_X11_taken_44, E_X11_taken_46, E_X11_taken_49, E_X11_taken_51, E_X11_taken_53, E_X11_taken_56, E_X11_taken_59, E_X11_taken_61, E_X11_taken_62, E_X11_taken_65, E_X11_taken_66, E_X11_taken_67, E_X11_taken_70, E_X11_taken_72, E_X11_taken_73, E_X11_taken_75, E_X11_taken_78, E_X11_taken_81, E_X11_taken_83, c_within, tk_in q hq, hge, gb_1, g1_0, List.map_nil, List.map_cons, List.sum_cons, List.sum_nil, gcat_i, gcat_r, gcat_l, Nat.reduceAdd, Nat.reduceLeDiff, Nat.zero_le, Option.toList, List.cons_append, List.nil_append, gnk_i, gnk_r, gnk_n, gi_1, Nat.reduceLT, if_true, if_false]
theorem tk_no {a q m : Nat} {l1 : Option Value} {K : Int32} (ha : a < 7) (hq : q < 7) (hne : a ≠ q) (hm : m < 7) : gc_X w (d + 1) 92 42 [some (.ref 0), l1, some (.int (nI q)), some (.int K), some (.int (nI a)), some (.int (nI m))] [] (gm_m s) Q = gc_X w (d + 1) 92 42 [some (.ref 0), l1, some (.int (nI q)), some (.int K), some (.int (([-1, 0, 0, 0, 1, 2, 3] : List Int32).getD a 0)), some (.int (nI (m + 1)))] [] (gm_m s) Q := by
  have hge : ¬ (7 : Int32) ≤ nI m := nI_ge (b := 7) (by omega) (by omega)
  obtain ⟨i1, i2⟩ := tk_up a ha
  have hn := tk_ne a ha q hq hne
  rw [nI_succ]
  rw [E_X11_taken_42]
  simp only [E_X11_taken_0, E_X11_taken_1, E_X11_taken_3, E_X11_taken_6, E_X11_taken_9, E_X11_taken_11, E_X11_taken_12, E_X11_taken_13, E_X11_taken_16, E_X11_taken_17, E_X11_taken_20, E_X11_taken_23, E_X11_taken_25, E_X11_taken_26, E_X11_taken_27, E_X11_taken_30, E_X11_taken_33, E_X11_taken_34, E_X11_taken_35, E_X11_taken_36, E_X11_taken_37, E_X11_taken_39, E_X11_taken_40, E_X11_taken_44, E_X11_taken_46, E_X11_taken_49, E_X11_taken_51, E_X11_taken_53, E_X11_taken_56, E_X11_taken_59, E_X11_taken_61, E_X11_taken_62, E_X11_taken_65, E_X11_taken_66, E_X11_taken_67, E_X11_taken_70, E_X11_taken_72, E_X11_taken_73, E_X11_taken_75, E_X11_taken_78, E_X11_taken_81, E_X11_taken_83, c_within, tk_in a ha, hge, hn, i1, i2, gb_1, g1_0, List.map_nil, List.map_cons, List.sum_cons, List.sum_nil, gcat_i, gcat_r, gcat_l, Nat.reduceAdd, Nat.reduceLeDiff, Nat.zero_le, Option.toList, List.cons_append, List.nil_append, gnk_i, gnk_r, gnk_n, gi_1, Nat.reduceLT, if_true, if_false]
theorem tk_end {q m : Nat} {l1 : Option Value} {K : Int32} (hm : m < 7) : gc_X w (d + 1) 92 42 [some (.ref 0), l1, some (.int (nI q)), some (.int K), some (.int (-1)), some (.int (nI m))] [] (gm_m s) Q = Q (some (.int (-12))) (gm_m s) := by
  have hge : ¬ (7 : Int32) ≤ nI m := nI_ge (b := 7) (by omega) (by omega)
  have e : gB_in (-1) 0 6 = false := by decide
  rw [E_X11_taken_42]
  simp only [E_X11_taken_0, E_X11_taken_1, E_X11_taken_3, E_X11_taken_6, E_X11_taken_9, E_X11_taken_11, E_X11_taken_12, E_X11_taken_13, E_X11_taken_16, E_X11_taken_17, E_X11_taken_20, E_X11_taken_23, E_X11_taken_25, E_X11_taken_26, E_X11_taken_27, E_X11_taken_30, E_X11_taken_33, E_X11_taken_34, E_X11_taken_35, E_X11_taken_36, E_X11_taken_37, E_X11_taken_39, E_X11_taken_40, E_X11_taken_44, E_X11_taken_46, E_X11_taken_49, E_X11_taken_51, E_X11_taken_53, E_X11_taken_56, E_X11_taken_59, E_X11_taken_61, E_X11_taken_62, E_X11_taken_65, E_X11_taken_66, E_X11_taken_67, E_X11_taken_70, E_X11_taken_72, E_X11_taken_73, E_X11_taken_75, E_X11_taken_78, E_X11_taken_81, E_X11_taken_83, c_within, e, hge, gb_0, List.map_nil, List.map_cons, List.sum_cons, List.sum_nil, gcat_i, gcat_r, gcat_l, Nat.reduceAdd, Nat.reduceLeDiff, Nat.zero_le, Option.toList, List.cons_append, List.nil_append, gnk_i, gnk_r, gnk_n, gi_1, Nat.reduceLT, if_true, if_false]
abbrev gTk (k q : Nat) : Prop := k = q ∨ q = 0 ∨ 4 ≤ k ∧ q + 3 = k
theorem tk_0 {q m : Nat} {l1 : Option Value} {K : Int32} (hq : q < 7) (hm : m < 6) : gc_X w (d + 1) 92 42 [some (.ref 0), l1, some (.int (nI q)), some (.int K), some (.int (nI 0)), some (.int (nI m))] [] (gm_m s) Q = Q (some (.int (if gTk 0 q then K else -12))) (gm_m s) := by
  by_cases e : 0 = q
  · subst e
    rw [if_pos (Or.inl rfl), tk_eq (by omega) (by omega)]
  · rw [if_neg (fun h => by unfold gTk at h; omega), tk_no (by omega) hq e (by omega)]
    exact tk_end (by omega)
theorem tk_1 {a q m : Nat} {l1 : Option Value} {K : Int32} (h1 : 1 ≤ a) (h3 : a ≤ 3) (hq : q < 7) (hm : m < 5) : gc_X w (d + 1) 92 42 [some (.ref 0), l1, some (.int (nI q)), some (.int K), some (.int (nI a)), some (.int (nI m))] [] (gm_m s) Q = Q (some (.int (if gTk a q then K else -12))) (gm_m s) := by
  by_cases e : a = q
  · subst e
    rw [if_pos (Or.inl rfl), tk_eq (by omega) (by omega)]
  · rw [tk_no (by omega) hq e (by omega)]
    have e0 : ([-1, 0, 0, 0, 1, 2, 3] : List Int32).getD a 0 = nI 0 := by
      match a, h1, h3 with | 1, _, _ | 2, _, _ | 3, _, _ => rfl
    rw [e0, tk_0 hq (by omega)]
    have e1 : gTk 0 q = gTk a q := by
      unfold gTk
      exact propext ⟨fun h => by omega, fun h => by omega⟩
    simp only [e1]
theorem tk_2 {a q m : Nat} {l1 : Option Value} {K : Int32} (h1 : 4 ≤ a) (h3 : a ≤ 6) (hq : q < 7) (hm : m < 4) : gc_X w (d + 1) 92 42 [some (.ref 0), l1, some (.int (nI q)), some (.int K), some (.int (nI a)), some (.int (nI m))] [] (gm_m s) Q = Q (some (.int (if gTk a q then K else -12))) (gm_m s) := by
  by_cases e : a = q
  · subst e
    rw [if_pos (Or.inl rfl), tk_eq (by omega) (by omega)]
  · rw [tk_no (by omega) hq e (by omega)]
    have e0 : ([-1, 0, 0, 0, 1, 2, 3] : List Int32).getD a 0 = nI (a - 3) := by
      match a, h1, h3 with | 4, _, _ | 5, _, _ | 6, _, _ => rfl
    rw [e0, tk_1 (by omega) (by omega) hq (by omega)]
    have e1 : gTk (a - 3) q = gTk a q := by
      unfold gTk
      exact propext ⟨fun h => by omega, fun h => by omega⟩
    simp only [e1]
theorem tk_c {a q : Nat} {l1 : Option Value} {K : Int32} (h3 : a < 7) (hq : q < 7) : gc_X w (d + 1) 92 42 [some (.ref 0), l1, some (.int (nI q)), some (.int K), some (.int (nI a)), some (.int 0)] [] (gm_m s) Q = Q (some (.int (if gTk a q then K else -12))) (gm_m s) := by
  rw [← nI_0]
  have c : a = 0 ∨ (1 ≤ a ∧ a ≤ 3) ∨ (4 ≤ a ∧ a ≤ 6) := by omega
  rcases c with e | ⟨h1, h2⟩ | ⟨h1, h2⟩
  · subst e
    exact tk_0 hq (by omega)
  · exact tk_1 h1 h2 hq (by omega)
  · exact tk_2 h1 h2 hq (by omega)
theorem tk_m {l0 l1 : Option Value} : ∀ k, k < 7 → ∀ q, q < 7 → gc_X w d 196 32 [l0, l1, some (.int (nI q)), some (.int (nI k))] [] (gm_m s) Q = Q (some (.int (if gTk k q then nI k else -12))) (gm_m s) := by
  intro k hk q hq
  have c1 : k = 0 ∨ k = 1 ∨ k = 2 ∨ k = 3 ∨ k = 4 ∨ k = 5 ∨ k = 6 := by omega
  have c2 : q = 0 ∨ q = 1 ∨ q = 2 ∨ q = 3 ∨ q = 4 ∨ q = 5 ∨ q = 6 := by omega
  rcases c1 with rfl | rfl | rfl | rfl | rfl | rfl | rfl <;> rcases c2 with rfl | rfl | rfl | rfl | rfl | rfl | rfl <;> simp (decide := true) only [E_X12_taken_0, E_X12_taken_1, E_X12_taken_2, E_X12_taken_3, E_X12_taken_5, E_X12_taken_8, E_X12_taken_11, E_X12_taken_13, E_X12_taken_14, E_X12_taken_15, E_X12_taken_16, E_X12_taken_19, E_X12_taken_22, E_X12_taken_24, E_X12_taken_25, E_X12_taken_26, E_X12_taken_29, E_X12_taken_30, E_X12_taken_31, E_X12_taken_32, E_X12_taken_33, E_X12_taken_36, E_X12_taken_37, E_X12_taken_38, E_X12_taken_41, E_X12_taken_42, E_X12_taken_43, E_X12_taken_46, E_X12_taken_47, E_X12_taken_48, E_X12_taken_51, E_X12_taken_52, E_X12_taken_53, E_X12_taken_56, E_X12_taken_57, E_X12_taken_58, E_X12_taken_61, E_X12_taken_62, E_X12_taken_63, E_X12_taken_66, E_X12_taken_67, E_X12_taken_69, E_X12_taken_72, E_X12_taken_73, E_X12_taken_76, E_X12_taken_78, if_true, if_false]
theorem i_taken (h : gInv s) : gBoth w 92 196 [some (.ref 0), some (.int x), some (.int y), none, none, none] [some (.ref 137), some (.int x), some (.int y), none] s := by
  have h0 := h
  obtain ⟨φ, p, cu, cs, f, l1, l2, l3, h⟩ := gInv_I h
  have hR := gI_R h
  have hk := gI_ok h
  have k6 := hk.1
  have hw := fun (s : gm_S) (a b : Int32) (Q : Option Value → gc_M → Prop) => c_within (w := w) (d := 39) (s := s) (x := a) (y := b) (Q := Q)
  have hin := fun (a b c : Int32) (s : gm_S) (Q : Option Value → gc_M → Prop) => m_in (w := w) (d := 39) (s := s) (x := a) (y := b) (z := c) (Q := Q)
  have hhc := fun (z : Int32) (Q : Option Value → gc_M → Prop) => gy_hasCrane (w := w) (d := 39) (x := z) (Q := Q) hR
  have hic := fun (a : Int32) (Q : Option Value → gc_M → Prop) => m_isCrane (w := w) (d := 38) (x := a) (Q := Q) (gI_mR h) hk
  cases b1 : gB_in y 0 6 with
  | false =>
    refine i_no h0 (-2) (fun Q => ?_) (fun Q => ?_)
    · simp only [E_X11_taken_0, E_X11_taken_1, E_X11_taken_3, E_X11_taken_6, E_X11_taken_9, E_X11_taken_11, E_X11_taken_12, E_X11_taken_13, E_X11_taken_16, E_X11_taken_17, E_X11_taken_20, E_X11_taken_23, E_X11_taken_25, E_X11_taken_26, E_X11_taken_27, E_X11_taken_30, E_X11_taken_33, E_X11_taken_34, E_X11_taken_35, E_X11_taken_36, E_X11_taken_37, E_X11_taken_39, E_X11_taken_40, E_X11_taken_44, E_X11_taken_46, E_X11_taken_49, E_X11_taken_51, E_X11_taken_53, E_X11_taken_56, E_X11_taken_59, E_X11_taken_61, E_X11_taken_62, E_X11_taken_65, E_X11_taken_66, E_X11_taken_67, E_X11_taken_70, E_X11_taken_72, E_X11_taken_73, E_X11_taken_75, E_X11_taken_78, E_X11_taken_81, E_X11_taken_83, hw, b1, gb_0, List.map_nil, List.map_cons, List.sum_cons, List.sum_nil, gcat_i, gcat_r, gcat_l, Nat.reduceAdd, Nat.reduceLeDiff, Nat.zero_le, Option.toList, List.cons_append, List.nil_append, gnk_i, gnk_r, gnk_n, gi_1, Nat.reduceLT, if_true, if_false]
    · simp only [E_X12_taken_0, E_X12_taken_1, E_X12_taken_2, E_X12_taken_3, E_X12_taken_5, E_X12_taken_8, E_X12_taken_11, E_X12_taken_13, E_X12_taken_14, E_X12_taken_15, E_X12_taken_16, E_X12_taken_19, E_X12_taken_22, E_X12_taken_24, E_X12_taken_25, E_X12_taken_26, E_X12_taken_29, E_X12_taken_30, E_X12_taken_31, E_X12_taken_32, E_X12_taken_33, E_X12_taken_36, E_X12_taken_37, E_X12_taken_38, E_X12_taken_41, E_X12_taken_42, E_X12_taken_43, E_X12_taken_46, E_X12_taken_47, E_X12_taken_48, E_X12_taken_51, E_X12_taken_52, E_X12_taken_53, E_X12_taken_56, E_X12_taken_57, E_X12_taken_58, E_X12_taken_61, E_X12_taken_62, E_X12_taken_63, E_X12_taken_66, E_X12_taken_67, E_X12_taken_69, E_X12_taken_72, E_X12_taken_73, E_X12_taken_76, E_X12_taken_78, rc_137, hin, b1, gb_0, List.map_nil, List.map_cons, List.sum_cons, List.sum_nil, gcat_i, gcat_r, gcat_l, Nat.reduceAdd, Nat.reduceLeDiff, Nat.zero_le, Option.toList, List.cons_append, List.nil_append, gnk_i, gnk_r, gnk_n, gi_1, Nat.reduceLT, if_true, if_false]
  | true =>
  cases b2 : gA_of p.1.2.1 x with
  | false =>
    refine i_no h0 (-11) (fun Q => ?_) (fun Q => ?_)
    · simp only [E_X11_taken_0, E_X11_taken_1, E_X11_taken_3, E_X11_taken_6, E_X11_taken_9, E_X11_taken_11, E_X11_taken_12, E_X11_taken_13, E_X11_taken_16, E_X11_taken_17, E_X11_taken_20, E_X11_taken_23, E_X11_taken_25, E_X11_taken_26, E_X11_taken_27, E_X11_taken_30, E_X11_taken_33, E_X11_taken_34, E_X11_taken_35, E_X11_taken_36, E_X11_taken_37, E_X11_taken_39, E_X11_taken_40, E_X11_taken_44, E_X11_taken_46, E_X11_taken_49, E_X11_taken_51, E_X11_taken_53, E_X11_taken_56, E_X11_taken_59, E_X11_taken_61, E_X11_taken_62, E_X11_taken_65, E_X11_taken_66, E_X11_taken_67, E_X11_taken_70, E_X11_taken_72, E_X11_taken_73, E_X11_taken_75, E_X11_taken_78, E_X11_taken_81, E_X11_taken_83, rk_0, rg_0_0, rc_83, hhc, hw, b1, b2, gb_0, gb_1, g1_0, List.map_nil, List.map_cons, List.sum_cons, List.sum_nil, gcat_i, gcat_r, gcat_l, Nat.reduceAdd, Nat.reduceLeDiff, Nat.zero_le, Option.toList, List.cons_append, List.nil_append, gnk_i, gnk_r, gnk_n, gi_1, Nat.reduceLT, if_true, if_false]
    · simp only [E_X12_taken_0, E_X12_taken_1, E_X12_taken_2, E_X12_taken_3, E_X12_taken_5, E_X12_taken_8, E_X12_taken_11, E_X12_taken_13, E_X12_taken_14, E_X12_taken_15, E_X12_taken_16, E_X12_taken_19, E_X12_taken_22, E_X12_taken_24, E_X12_taken_25, E_X12_taken_26, E_X12_taken_29, E_X12_taken_30, E_X12_taken_31, E_X12_taken_32, E_X12_taken_33, E_X12_taken_36, E_X12_taken_37, E_X12_taken_38, E_X12_taken_41, E_X12_taken_42, E_X12_taken_43, E_X12_taken_46, E_X12_taken_47, E_X12_taken_48, E_X12_taken_51, E_X12_taken_52, E_X12_taken_53, E_X12_taken_56, E_X12_taken_57, E_X12_taken_58, E_X12_taken_61, E_X12_taken_62, E_X12_taken_63, E_X12_taken_66, E_X12_taken_67, E_X12_taken_69, E_X12_taken_72, E_X12_taken_73, E_X12_taken_76, E_X12_taken_78, rc_137, hin, hic, b1, b2, gb_0, gb_1, g1_0, List.map_nil, List.map_cons, List.sum_cons, List.sum_nil, gcat_i, gcat_r, gcat_l, Nat.reduceAdd, Nat.reduceLeDiff, Nat.zero_le, Option.toList, List.cons_append, List.nil_append, gnk_i, gnk_r, gnk_n, gi_1, Nat.reduceLT, if_true, if_false]
  | true =>
  obtain ⟨q, hq, e1⟩ := gB_in_ex (k := 6) b1 (by decide)
  have hq7 : q < 7 := by omega
  subst e1
  obtain ⟨c, hc, e1⟩ := gA_of_ex b2 (by omega)
  subst e1
  have i1 : vp_in (nI c) 6 := vp_in_nI (by omega) (by omega)
  have i2 : (nI c).toNatClampNeg = c := nI_clamp (by omega)
  have a2 : s.1 85 c = p.2.1 2 c := hR.2.2.2.2.2.2.2.1 2 c (Or.inr (Or.inl ⟨Or.inl rfl, hc⟩))
  have a3 : s.1 139 c = p.2.1 2 c := ((gI_mR h).2.2.2.2.1 c hc).1
  obtain ⟨k, hk7, ek⟩ := hk.2.2.2 c hc
  rw [ek] at a2 a3
  have tc := fun (Q : Option Value → gc_M → Prop) => tk_c (w := w) (s := s) (d := 39) (l1 := some (.int (nI c))) (K := nI k) (Q := Q) hk7 hq7
  have tm := fun (Q : Option Value → gc_M → Prop) => tk_m (w := w) (s := s) (d := 40) (l0 := some (.ref 137)) (l1 := some (.int (nI c))) (Q := Q) k hk7 q hq7
  refine i_no h0 (if gTk k q then nI k else -12) (fun Q => ?_) (fun Q => ?_)
  · simp only [E_X11_taken_0, E_X11_taken_1, E_X11_taken_3, E_X11_taken_6, E_X11_taken_9, E_X11_taken_11, E_X11_taken_12, E_X11_taken_13, E_X11_taken_16, E_X11_taken_17, E_X11_taken_20, E_X11_taken_23, E_X11_taken_25, E_X11_taken_26, E_X11_taken_27, E_X11_taken_30, E_X11_taken_33, E_X11_taken_34, E_X11_taken_35, E_X11_taken_36, E_X11_taken_37, E_X11_taken_39, E_X11_taken_40, E_X11_taken_44, E_X11_taken_46, E_X11_taken_49, E_X11_taken_51, E_X11_taken_53, E_X11_taken_56, E_X11_taken_59, E_X11_taken_61, E_X11_taken_62, E_X11_taken_65, E_X11_taken_66, E_X11_taken_67, E_X11_taken_70, E_X11_taken_72, E_X11_taken_73, E_X11_taken_75, E_X11_taken_78, E_X11_taken_81, E_X11_taken_83, rk_0, rk_83, rg_0_0, rg_83_5, rc_83, ra_85, rv_85, i1, i2, a2, hhc, hw, b1, b2, tc, gb_1, g1_0, List.map_nil, List.map_cons, List.sum_cons, List.sum_nil, gcat_i, gcat_r, gcat_l, Nat.reduceAdd, Nat.reduceLeDiff, Nat.zero_le, Option.toList, List.cons_append, List.nil_append, gnk_i, gnk_r, gnk_n, gi_1, Nat.reduceLT, if_true, if_false]
  · simp only [E_X12_taken_0, E_X12_taken_1, E_X12_taken_2, E_X12_taken_3, E_X12_taken_5, E_X12_taken_8, E_X12_taken_11, E_X12_taken_13, E_X12_taken_14, E_X12_taken_15, E_X12_taken_16, E_X12_taken_19, E_X12_taken_22, E_X12_taken_24, E_X12_taken_25, E_X12_taken_26, E_X12_taken_29, E_X12_taken_30, E_X12_taken_31, E_X12_taken_33, E_X12_taken_36, E_X12_taken_37, E_X12_taken_38, E_X12_taken_41, E_X12_taken_42, E_X12_taken_43, E_X12_taken_46, E_X12_taken_47, E_X12_taken_48, E_X12_taken_51, E_X12_taken_52, E_X12_taken_53, E_X12_taken_56, E_X12_taken_57, E_X12_taken_58, E_X12_taken_61, E_X12_taken_62, E_X12_taken_63, E_X12_taken_66, E_X12_taken_67, E_X12_taken_69, E_X12_taken_72, E_X12_taken_73, E_X12_taken_76, E_X12_taken_78, rk_137, rc_137, rg_137_4, ra_139, rv_139, i1, i2, a3, hin, hic, b1, b2, tm, gb_1, g1_0, List.map_nil, List.map_cons, List.sum_cons, List.sum_nil, gcat_i, gcat_r, gcat_l, Nat.reduceAdd, Nat.reduceLeDiff, Nat.zero_le, Option.toList, List.cons_append, List.nil_append, gnk_i, gnk_r, gnk_n, gi_1, Nat.reduceLT, if_true, if_false]
end
