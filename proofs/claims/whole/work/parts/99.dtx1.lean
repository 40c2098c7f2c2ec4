/-! FIRM, the reference: what waits, what is emitted, tests -/
theorem nI_m1 {x : Nat} (h : 0 < x) : nI x - 1 = nI (x - 1) := nI_sub (y := 1) h
theorem fc_3 : fT_code (3, 0, 0) = -33 := rfl
theorem fc_4 : fT_code (4, 0, 0) = -38 := rfl
theorem fc_5 : fT_code (5, 0, 0) = -124 := rfl
theorem xl_le : ∀ x, x < 128 → xl x ≤ 6 := by decide +kernel
theorem xh_is {x : Nat} (h : xh x < 3) : x = 60 + xh x := by
  unfold xh at h ⊢
  repeat' split
  all_goals first | omega | (exfalso; split at h <;> omega) | skip
  all_goals (simp_all)
theorem xh_in {x : Nat} : (decide (60 ≤ x) && decide (x ≤ 62)) = decide (xh x < 3) := by
  rw [Bool.eq_iff_iff]
  simp only [Bool.and_eq_true, decide_eq_true_eq]
  constructor
  · intro h
    have : x = 60 ∨ x = 61 ∨ x = 62 := by omega
    rcases this with rfl | rfl | rfl <;> decide
  · intro h
    have := xh_is h
    omega
/-- emitted at i -/
def sE (s : gm_S) (i : Nat) (x : Int32) : gm_S := gm_si (gm_si s 154 i x) 137 26 (nI (i + 1))
theorem sE_o {s : gm_S} {i c j : Nat} {x : Int32} (h1 : ¬ (c = 137 ∧ j = 26)) (h2 : ¬ (c = 154 ∧ j = i)) : (sE s i x).1 c j = s.1 c j := by
  unfold sE
  rw [gsi_1, if_neg h1, gsi_1, if_neg h2]
theorem sE_26 {s : gm_S} {i : Nat} {x : Int32} : (sE s i x).1 137 26 = nI (i + 1) := by
  unfold sE
  rw [gsi_1, if_pos ⟨rfl, rfl⟩]
theorem sE_154 {s : gm_S} {i : Nat} {x : Int32} : (sE s i x).1 154 i = x := by
  unfold sE
  rw [gsi_1, if_neg (fun e => by omega), gsi_1, if_pos ⟨rfl, rfl⟩]
theorem dF_E {B cl i : Nat} {s : gm_S} {x : Int32} (h : B ≤ i) : dF B cl s (sE s i x) := dF_trans (dF_154 h) (dF_si (by decide))
section
variable {w : Nat × (Nat → Int32)} {d B cl n a c o : Nat} {b : Nat → Nat} {s : gm_S} {V W : List Nat} {ts : List fT} {Q : Option Value → gc_M → Prop}
theorem dA_tok {s' : gm_S} {k : fT} (h : ∀ i k, ts[i]? = some k → s.1 154 (B + i) = fT_code k) (e1 : ∀ j, j ≠ B + ts.length → s'.1 154 j = s.1 154 j) (e2 : s'.1 154 (B + ts.length) = fT_code k) : ∀ i q, (ts ++ [k])[i]? = some q → s'.1 154 (B + i) = fT_code q := by
  intro i q hq
  rcases get_app hq with ⟨hi, hq⟩ | ⟨hi, hq⟩
  · rw [e1 _ (by omega)]
    exact h i q hq
  · subst hq
    subst hi
    exact e2
theorem dA_E {k : fT} {x : Int32} (h : dA B n s a W o ts) (hl : ts.length + 1 + W.length ≤ a) (hx : x = fT_code k) : dA B n (sE s (B + ts.length) x) a W o (ts ++ [k]) := by
  obtain ⟨h1, h2, h3, h4, h5, h6, h7, h8, h9⟩ := h
  refine ⟨?_, h2, ?_, ?_, h5, ?_, by rw [List.length_append]; exact hl, fun i c hc => ?_, dA_tok h9 (fun j hj => sE_o (by omega) (fun e => hj e.2)) (sE_154.trans hx)⟩
  · rw [sE_o (by omega) (by omega)]; exact h1
  · rw [sE_o (by omega) (by omega)]; exact h3
  · rw [sE_o (by omega) (by omega)]; exact h4
  · rw [sE_26, List.length_append]; rfl
  · rw [sE_o (by omega) (by omega)]; exact h8 i c hc
theorem d_emit {i : Nat} {x : Int32} (h : s.1 137 26 = nI i) (hi : i < 600) : gc_X w d 129 0 [some (.ref 137), some (.int x)] [] (gm_m s) Q = Q none (gm_m (sE s i x)) := by
  have i1 : vp_in (nI i) 600 := vp_in_nI hi (by omega)
  have i2 : (nI i).toNatClampNeg = i := nI_clamp (by omega)
  have e : (gm_si s 154 i x).1 137 26 = nI i := by
    rw [gsi_1, if_neg (fun e => by omega)]
    exact h
  unfold sE
  simp only [E_X12_emits_0, E_X12_emits_1, E_X12_emits_4, E_X12_emits_5, E_X12_emits_8, E_X12_emits_9, E_X12_emits_10, E_X12_emits_11, E_X12_emits_12, E_X12_emits_15, E_X12_emits_16, E_X12_emits_17, E_X12_emits_20, rk_137, rg_137_24, rg_137_26, rp_137_26, ra_154, rs_154, h, i1, i2, e, nI_1, gnk_i, gnk_r, gnk_n, gi_1, Nat.reduceLT, if_true, if_false]
/-- the top of what waits goes, and is emitted -/
theorem dA_pop {k : fT} {x : Int32} {s' : gm_S} (h : dA B n s a (W ++ [c]) o ts) (hx : x = fT_code k) (e27 : s'.1 137 27 = nI W.length) {o' : Nat} (ho : o' ≤ 4) (e28 : s'.1 137 28 = nI o') (e26 : s'.1 137 26 = nI (B + ts.length + 1)) (e154 : s'.1 154 (B + ts.length) = x) (e : ∀ c j, ¬ (c = 137 ∧ (j = 26 ∨ j = 27 ∨ j = 28)) → ¬ (c = 154 ∧ j = B + ts.length) → s'.1 c j = s.1 c j) : dA B n s' a W o' (ts ++ [k]) := by
  obtain ⟨h1, h2, h3, h4, h5, h6, h7, h8, h9⟩ := h
  rw [List.length_append] at h7
  have h7 : ts.length + (W.length + 1) ≤ a := h7
  refine ⟨(e _ _ (by omega) (by omega)).trans h1, h2, e27, e28, ho, ?_, ?_, fun i c hc => ?_, dA_tok h9 (fun j hj => e _ _ (by omega) (fun q => hj q.2)) (e154.trans hx)⟩
  · rw [List.length_append]; exact e26
  · rw [List.length_append]
    show ts.length + 1 + W.length ≤ a
    omega
  · rw [e _ _ (by omega) (by omega)]
    exact h8 i c (by rw [List.getElem?_append_left (List.getElem?_eq_some_iff.mp hc).1]; exact hc)
theorem dA_top (h : dA B n s a (W ++ [c]) o ts) : s.1 155 W.length = nI c ∧ c < 128 ∧ s.1 137 27 = nI (W.length + 1) ∧ ts.length + W.length + 1 ≤ a := by
  obtain ⟨h1, h2, h3, h4, h5, h6, h7, h8, h9⟩ := h
  obtain ⟨z1, z2⟩ := h8 W.length c (by simp)
  rw [List.length_append] at h7 h3
  have h7 : ts.length + (W.length + 1) ≤ a := h7
  exact ⟨z1, z2, h3, by omega⟩
/-- nothing is popped: what waits is empty, or its top is c -/
theorem d_whole_stop (hB : dB B n b s) (hA : dA B n s a V o ts) (hV : V.getLast? ≠ some 33) (hQ : Q none (gm_m s)) : gc_X w (d + 1) 130 0 [some (.ref 137)] [] (gm_m s) Q := by
  rcases List.eq_nil_or_concat V with e | ⟨U, c, e⟩
  · subst e
    have h27 : s.1 137 27 = 0 := hA.2.2.1
    simp (decide := true) only [E_X12_whole_0, E_X12_whole_1, E_X12_whole_4, E_X12_whole_7, E_X12_whole_8, E_X12_whole_11, E_X12_whole_12, E_X12_whole_15, E_X12_whole_16, E_X12_whole_17, E_X12_whole_18, E_X12_whole_20, E_X12_whole_23, E_X12_whole_24, E_X12_whole_26, E_X12_whole_29, E_X12_whole_30, E_X12_whole_31, E_X12_whole_34, E_X12_whole_35, E_X12_whole_36, E_X12_whole_39, E_X12_whole_40, E_X12_whole_41, E_X12_whole_44, E_X12_whole_45, E_X12_whole_46, E_X12_whole_49, E_X12_whole_52, rk_137, rg_137_27, h27, List.map_nil, List.map_cons, List.sum_cons, List.sum_nil, gcat_i, gcat_r, gcat_l, Nat.reduceAdd, Nat.reduceLeDiff, Nat.zero_le, Option.toList, List.cons_append, List.nil_append, gnk_i, gnk_r, gnk_n, gi_1, Nat.reduceLT, if_true, if_false]
    exact hQ
  · rw [List.concat_eq_append] at e
    subst e
    have h100 := hB.2.1
    have hn := hA.2.1
    obtain ⟨z1, z2, z3, z4⟩ := dA_top hA
    have hc : c ≠ 33 := by
      intro e
      subst e
      exact hV (by simp)
    have i0 : ¬ nI (U.length + 1) ≤ 0 := nI_nle (by omega) (by omega)
    have i1 : vp_in (nI U.length) 101 := vp_in_nI (by omega) (by omega)
    have i2 : (nI U.length).toNatClampNeg = U.length := nI_clamp (by omega)
    have i3 : (nI c = 33) = (c = 33) := propext (nI_eq (b := 33) (by omega) (by decide))
    simp only [E_X12_whole_0, E_X12_whole_1, E_X12_whole_4, E_X12_whole_7, E_X12_whole_8, E_X12_whole_11, E_X12_whole_12, E_X12_whole_15, E_X12_whole_16, E_X12_whole_17, E_X12_whole_18, E_X12_whole_20, E_X12_whole_23, E_X12_whole_24, E_X12_whole_26, E_X12_whole_29, E_X12_whole_30, E_X12_whole_31, E_X12_whole_34, E_X12_whole_35, E_X12_whole_36, E_X12_whole_39, E_X12_whole_40, E_X12_whole_41, E_X12_whole_44, E_X12_whole_45, E_X12_whole_46, E_X12_whole_49, E_X12_whole_52, rk_137, rg_137_25, rg_137_27, ra_155, rv_155, z3, i0, nI_pred, i1, i2, z1, i3, hc, List.map_nil, List.map_cons, List.sum_cons, List.sum_nil, gcat_i, gcat_r, gcat_l, Nat.reduceAdd, Nat.reduceLeDiff, Nat.zero_le, Option.toList, List.cons_append, List.nil_append, gnk_i, gnk_r, gnk_n, gi_1, Nat.reduceLT, if_true, if_false]
    exact hQ
theorem d_whole : ∀ (m : Nat) (W : List Nat) (ts : List fT) (s : gm_S), W = V ++ List.replicate m 33 → V.getLast? ≠ some 33 → dB B n b s → dA B n s a W (o + m) ts → (∀ s', dF B cl s s' → dA B n s' a V o (ts ++ List.replicate m (3, 0, 0)) → Q none (gm_m s')) → gc_X w (d + 1) 130 0 [some (.ref 137)] [] (gm_m s) Q := by
  intro m
  induction m with
  | zero =>
    intro W ts s hW hV hB hA hQ
    rw [List.replicate_zero, List.append_nil] at hW
    subst hW
    exact d_whole_stop hB hA hV (hQ s dF_refl (by rw [List.replicate_zero, List.append_nil]; exact hA))
  | succ m ih =>
    intro W ts s hW hV hB hA hQ
    rw [List.replicate_succ', ← List.append_assoc] at hW
    generalize hU : V ++ List.replicate m 33 = U at hW
    subst hW
    have h100 := hB.2.1
    have hB5 := hB.1
    have hn := hA.2.1
    have h26 := hA.2.2.2.2.2.1
    have h28 := hA.2.2.2.1
    have ho := hA.2.2.2.2.1
    obtain ⟨z1, z2, z3, z4⟩ := dA_top hA
    have i0 : ¬ nI (U.length + 1) ≤ 0 := nI_nle (by omega) (by omega)
    have i1 : vp_in (nI U.length) 101 := vp_in_nI (by omega) (by omega)
    have i2 : (nI U.length).toNatClampNeg = U.length := nI_clamp (by omega)
    have i3 : (nI 33 = 33) = True := eq_true rfl
    have hem := fun (d : Nat) (Q : Option Value → gc_M → Prop) => d_emit (w := w) (d := d) (x := -33) (Q := Q) h26 (by omega)
    have y27 : (sE s (B + ts.length) (-33)).1 137 27 = nI (U.length + 1) := (sE_o (by omega) (by omega)).trans z3
    have y28 : (gm_si (sE s (B + ts.length) (-33)) 137 27 (nI U.length)).1 137 28 = nI (o + (m + 1)) := by
      rw [gsi_1, if_neg (fun e => by omega), sE_o (by omega) (by omega)]
      exact h28
    have y29 : nI (o + (m + 1)) - 1 = nI (o + m) := nI_pred (o + m)
    rw [E_X12_whole_0]
    simp only [E_X12_whole_1, E_X12_whole_4, E_X12_whole_7, E_X12_whole_8, E_X12_whole_11, E_X12_whole_12, E_X12_whole_15, E_X12_whole_16, E_X12_whole_17, E_X12_whole_18, E_X12_whole_20, E_X12_whole_23, E_X12_whole_24, E_X12_whole_26, E_X12_whole_29, E_X12_whole_30, E_X12_whole_31, E_X12_whole_34, E_X12_whole_35, E_X12_whole_36, E_X12_whole_39, E_X12_whole_40, E_X12_whole_41, E_X12_whole_44, E_X12_whole_45, E_X12_whole_46, E_X12_whole_49, E_X12_whole_52, rk_137, rc_137, rg_137_25, rg_137_27, rg_137_28, rp_137_27, rp_137_28, ra_155, rv_155, z3, i0, nI_pred, i1, i2, i3, z1, hem, y27, y28, y29, List.map_nil, List.map_cons, List.sum_cons, List.sum_nil, gcat_i, gcat_r, gcat_l, Nat.reduceAdd, Nat.reduceLeDiff, Nat.zero_le, Option.toList, List.cons_append, List.nil_append, gnk_i, gnk_r, gnk_n, gi_1, Nat.reduceLT, if_true, if_false]
    have hA1 : dA B n (gm_si (gm_si (sE s (B + ts.length) (-33)) 137 27 (nI U.length)) 137 28 (nI (o + m))) a U (o + m) (ts ++ [(3, 0, 0)]) := by
      refine dA_pop hA fc_3.symm ?_ (by omega) ?_ ?_ ?_ (fun c j q1 q2 => ?_)
      · rw [gsi_1, if_neg (fun e => by omega), gsi_1, if_pos ⟨rfl, rfl⟩]
      · rw [gsi_1, if_pos ⟨rfl, rfl⟩]
      · rw [gsi_1, if_neg (fun e => by omega), gsi_1, if_neg (fun e => by omega), sE_26]
      · rw [gsi_1, if_neg (fun e => by omega), gsi_1, if_neg (fun e => by omega), sE_154]
      · rw [gsi_1, if_neg (fun e => by omega), gsi_1, if_neg (fun e => by omega), sE_o (by omega) (by omega)]
    have hF1 : dF B cl s (gm_si (gm_si (sE s (B + ts.length) (-33)) 137 27 (nI U.length)) 137 28 (nI (o + m))) := dF_trans (dF_E (by omega)) (dF_trans (dF_si (by decide)) (dF_si (by decide)))
    refine ih U _ _ hU.symm hV (dB_F hB hF1) hA1 (fun s2 hF2 hA2 => hQ s2 (dF_trans hF1 hF2) ?_)
    rw [List.append_assoc] at hA2
    exact hA2
theorem d_settle_stop {g : Nat} (hB : dB B n b s) (hA : dA B n s a V o ts) (hg : g = 38 ∨ g = 124) (hV : V.getLast? ≠ some 38 ∧ (g = 124 → V.getLast? ≠ some 124)) (hQ : Q none (gm_m s)) : gc_X w (d + 1) 131 0 [some (.ref 137), some (.int (nI g))] [] (gm_m s) Q := by
  rcases List.eq_nil_or_concat V with e | ⟨U, c, e⟩
  · subst e
    have h27 : s.1 137 27 = 0 := hA.2.2.1
    simp (decide := true) only [E_X12_settle_0, E_X12_settle_1, E_X12_settle_4, E_X12_settle_7, E_X12_settle_8, E_X12_settle_11, E_X12_settle_12, E_X12_settle_15, E_X12_settle_16, E_X12_settle_17, E_X12_settle_18, E_X12_settle_20, E_X12_settle_23, E_X12_settle_24, E_X12_settle_27, E_X12_settle_28, E_X12_settle_31, E_X12_settle_32, E_X12_settle_33, E_X12_settle_34, E_X12_settle_36, E_X12_settle_39, E_X12_settle_40, E_X12_settle_42, E_X12_settle_45, E_X12_settle_46, E_X12_settle_47, E_X12_settle_50, E_X12_settle_51, E_X12_settle_52, E_X12_settle_55, E_X12_settle_56, E_X12_settle_57, E_X12_settle_60, E_X12_settle_61, E_X12_settle_64, E_X12_settle_65, E_X12_settle_66, E_X12_settle_69, E_X12_settle_72, rk_137, rg_137_27, h27, List.map_nil, List.map_cons, List.sum_cons, List.sum_nil, gcat_i, gcat_r, gcat_l, Nat.reduceAdd, Nat.reduceLeDiff, Nat.zero_le, Option.toList, List.cons_append, List.nil_append, gnk_i, gnk_r, gnk_n, gi_1, Nat.reduceLT, if_true, if_false]
    exact hQ
  · rw [List.concat_eq_append] at e
    subst e
    have h100 := hB.2.1
    have hn := hA.2.1
    obtain ⟨z1, z2, z3, z4⟩ := dA_top hA
    have hc : c ≠ 38 ∧ (g = 124 → c ≠ 124) := by
      refine ⟨fun e => ?_, fun q e => ?_⟩
      · subst e
        exact hV.1 (by simp)
      · subst e
        exact hV.2 q (by simp)
    have hc1 := hc.1
    have i0 : ¬ nI (U.length + 1) ≤ 0 := nI_nle (by omega) (by omega)
    have i1 : vp_in (nI U.length) 101 := vp_in_nI (by omega) (by omega)
    have i2 : (nI U.length).toNatClampNeg = U.length := nI_clamp (by omega)
    have i3 : (nI c = 38) = (c = 38) := propext (nI_eq (b := 38) (by omega) (by decide))
    have i4 : (nI c = 124) = (c = 124) := propext (nI_eq (b := 124) (by omega) (by decide))
    have i5 : (nI g = 38) = (g = 38) := propext (nI_eq (b := 38) (by omega) (by decide))
    by_cases h4 : c = 124
    · have h5 : g = 38 := by
        rcases hg with e | e
        · exact e
        · exact absurd h4 (hc.2 e)
      simp only [E_X12_settle_0, E_X12_settle_1, E_X12_settle_4, E_X12_settle_7, E_X12_settle_8, E_X12_settle_11, E_X12_settle_12, E_X12_settle_15, E_X12_settle_16, E_X12_settle_17, E_X12_settle_18, E_X12_settle_20, E_X12_settle_23, E_X12_settle_24, E_X12_settle_27, E_X12_settle_28, E_X12_settle_31, E_X12_settle_32, E_X12_settle_33, E_X12_settle_34, E_X12_settle_36, E_X12_settle_39, E_X12_settle_40, E_X12_settle_42, E_X12_settle_45, E_X12_settle_46, E_X12_settle_47, E_X12_settle_50, E_X12_settle_51, E_X12_settle_52, E_X12_settle_55, E_X12_settle_56, E_X12_settle_57, E_X12_settle_60, E_X12_settle_61, E_X12_settle_64, E_X12_settle_65, E_X12_settle_66, E_X12_settle_69, E_X12_settle_72, rk_137, rg_137_25, rg_137_27, ra_155, rv_155, z3, i0, nI_pred, i1, i2, z1, i3, i4, i5, hc1, h4, h5, List.map_nil, List.map_cons, List.sum_cons, List.sum_nil, gcat_i, gcat_r, gcat_l, Nat.reduceAdd, Nat.reduceLeDiff, Nat.zero_le, Option.toList, List.cons_append, List.nil_append, gnk_i, gnk_r, gnk_n, gi_1, Nat.reduceLT, if_true, if_false]
      first | exact hQ | (simp (decide := true) only [E_X12_settle_0, E_X12_settle_1, E_X12_settle_4, E_X12_settle_7, E_X12_settle_8, E_X12_settle_11, E_X12_settle_12, E_X12_settle_15, E_X12_settle_16, E_X12_settle_17, E_X12_settle_18, E_X12_settle_20, E_X12_settle_23, E_X12_settle_24, E_X12_settle_27, E_X12_settle_28, E_X12_settle_31, E_X12_settle_32, E_X12_settle_33, E_X12_settle_34, E_X12_settle_36, E_X12_settle_39, E_X12_settle_40, E_X12_settle_42, E_X12_settle_45, E_X12_settle_46, E_X12_settle_47, E_X12_settle_50, E_X12_settle_51, E_X12_settle_52, E_X12_settle_55, E_X12_settle_56, E_X12_settle_57, E_X12_settle_60, E_X12_settle_61, E_X12_settle_64, E_X12_settle_65, E_X12_settle_66, E_X12_settle_69, E_X12_settle_72, rk_137, rg_137_25, rg_137_27, ra_155, rv_155, z3, i0, nI_pred, i1, i2, z1, List.map_nil, List.map_cons, List.sum_cons, List.sum_nil, gcat_i, gcat_r, gcat_l, Nat.reduceAdd, Nat.reduceLeDiff, Nat.zero_le, Option.toList, List.cons_append, List.nil_append, gnk_i, gnk_r, gnk_n, gi_1, Nat.reduceLT, if_true, if_false]; exact hQ)
    · simp only [E_X12_settle_0, E_X12_settle_1, E_X12_settle_4, E_X12_settle_7, E_X12_settle_8, E_X12_settle_11, E_X12_settle_12, E_X12_settle_15, E_X12_settle_16, E_X12_settle_17, E_X12_settle_18, E_X12_settle_20, E_X12_settle_23, E_X12_settle_24, E_X12_settle_27, E_X12_settle_28, E_X12_settle_31, E_X12_settle_32, E_X12_settle_33, E_X12_settle_34, E_X12_settle_36, E_X12_settle_39, E_X12_settle_40, E_X12_settle_42, E_X12_settle_45, E_X12_settle_46, E_X12_settle_47, E_X12_settle_50, E_X12_settle_51, E_X12_settle_52, E_X12_settle_55, E_X12_settle_56, E_X12_settle_57, E_X12_settle_60, E_X12_settle_61, E_X12_settle_64, E_X12_settle_65, E_X12_settle_66, E_X12_settle_69, E_X12_settle_72, rk_137, rg_137_25, rg_137_27, ra_155, rv_155, z3, i0, nI_pred, i1, i2, z1, i3, i4, hc1, h4, List.map_nil, List.map_cons, List.sum_cons, List.sum_nil, gcat_i, gcat_r, gcat_l, Nat.reduceAdd, Nat.reduceLeDiff, Nat.zero_le, Option.toList, List.cons_append, List.nil_append, gnk_i, gnk_r, gnk_n, gi_1, Nat.reduceLT, if_true, if_false]
      exact hQ
theorem d_settle_pop {g : Nat} {x : Int32} {k : fT} (hB : dB B n b s) (hA : dA B n s a (V ++ [c]) o ts) (hg : g = 38 ∨ g = 124) (hc : c = 38 ∨ (c = 124 ∧ g = 124)) (hx : -nI c = x) (hk : x = fT_code k) (hQ : ∀ s', dF B cl s s' → dA B n s' a V o (ts ++ [k]) → gc_X w (d + 1) 131 0 [some (.ref 137), some (.int (nI g))] [] (gm_m s') Q) : gc_X w (d + 1) 131 0 [some (.ref 137), some (.int (nI g))] [] (gm_m s) Q := by
  have h100 := hB.2.1
  have hB5 := hB.1
  have hn := hA.2.1
  have h26 := hA.2.2.2.2.2.1
  have h28 := hA.2.2.2.1
  have ho := hA.2.2.2.2.1
  obtain ⟨z1, z2, z3, z4⟩ := dA_top hA
  have i0 : ¬ nI (V.length + 1) ≤ 0 := nI_nle (by omega) (by omega)
  have i1 : vp_in (nI V.length) 101 := vp_in_nI (by omega) (by omega)
  have i2 : (nI V.length).toNatClampNeg = V.length := nI_clamp (by omega)
  have i3 : (nI c = 38) = (c = 38) := propext (nI_eq (b := 38) (by omega) (by decide))
  have i4 : (nI c = 124) = (c = 124) := propext (nI_eq (b := 124) (by omega) (by decide))
  have i5 : (nI g = 38) = (g = 38) := propext (nI_eq (b := 38) (by omega) (by decide))
  have y26 : (gm_si s 137 27 (nI V.length)).1 137 26 = nI (B + ts.length) := by
    rw [gsi_1, if_neg (fun e => by omega)]
    exact h26
  have y27 : (gm_si s 137 27 (nI V.length)).1 137 27 = nI V.length := by
    rw [gsi_1, if_pos ⟨rfl, rfl⟩]
  have y155 : (gm_si s 137 27 (nI V.length)).1 155 V.length = nI c := by
    rw [gsi_1, if_neg (fun e => by omega)]
    exact z1
  have hem := fun (d : Nat) (x : Int32) (Q : Option Value → gc_M → Prop) => d_emit (w := w) (d := d) (x := x) (Q := Q) y26 (by omega)
  have hA1 : dA B n (sE (gm_si s 137 27 (nI V.length)) (B + ts.length) x) a V o (ts ++ [k]) := by
    refine dA_pop hA hk ?_ ho ?_ ?_ ?_ (fun c j q1 q2 => ?_)
    · rw [sE_o (by omega) (by omega), gsi_1, if_pos ⟨rfl, rfl⟩]
    · rw [sE_o (by omega) (by omega), gsi_1, if_neg (fun e => by omega)]
      exact h28
    · rw [sE_26]
    · rw [sE_154]
    · rw [sE_o (by omega) (by omega), gsi_1, if_neg (fun e => by omega)]
  have hF1 : dF B cl s (sE (gm_si s 137 27 (nI V.length)) (B + ts.length) x) := dF_trans (dF_si (by decide)) (dF_E (by omega))
  have hQ := hQ _ hF1 hA1
  rw [E_X12_settle_0]
  by_cases h38 : c = 38
  · simp only [E_X12_settle_1, E_X12_settle_4, E_X12_settle_7, E_X12_settle_8, E_X12_settle_11, E_X12_settle_12, E_X12_settle_15, E_X12_settle_16, E_X12_settle_17, E_X12_settle_18, E_X12_settle_20, E_X12_settle_23, E_X12_settle_24, E_X12_settle_27, E_X12_settle_28, E_X12_settle_31, E_X12_settle_32, E_X12_settle_33, E_X12_settle_34, E_X12_settle_36, E_X12_settle_39, E_X12_settle_40, E_X12_settle_42, E_X12_settle_45, E_X12_settle_46, E_X12_settle_47, E_X12_settle_50, E_X12_settle_51, E_X12_settle_52, E_X12_settle_55, E_X12_settle_56, E_X12_settle_57, E_X12_settle_60, E_X12_settle_61, E_X12_settle_64, E_X12_settle_65, E_X12_settle_66, E_X12_settle_69, E_X12_settle_72, rk_137, rc_137, rg_137_25, rg_137_27, rp_137_27, ra_155, rv_155, z3, i0, nI_pred, i1, i2, z1, i3, (eq_true h38 : (c = 38) = True), y27, y155, hx, hem, List.map_nil, List.map_cons, List.sum_cons, List.sum_nil, gcat_i, gcat_r, gcat_l, Nat.reduceAdd, Nat.reduceLeDiff, Nat.zero_le, Option.toList, List.cons_append, List.nil_append, gnk_i, gnk_r, gnk_n, gi_1, Nat.reduceLT, if_true, if_false]
    exact hQ
  · have h124 : c = 124 := by omega
    have g38 : ¬ g = 38 := by omega
    simp only [E_X12_settle_1, E_X12_settle_4, E_X12_settle_7, E_X12_settle_8, E_X12_settle_11, E_X12_settle_12, E_X12_settle_15, E_X12_settle_16, E_X12_settle_17, E_X12_settle_18, E_X12_settle_20, E_X12_settle_23, E_X12_settle_24, E_X12_settle_27, E_X12_settle_28, E_X12_settle_31, E_X12_settle_32, E_X12_settle_33, E_X12_settle_34, E_X12_settle_36, E_X12_settle_39, E_X12_settle_40, E_X12_settle_42, E_X12_settle_45, E_X12_settle_46, E_X12_settle_47, E_X12_settle_50, E_X12_settle_51, E_X12_settle_52, E_X12_settle_55, E_X12_settle_56, E_X12_settle_57, E_X12_settle_60, E_X12_settle_61, E_X12_settle_64, E_X12_settle_65, E_X12_settle_66, E_X12_settle_69, E_X12_settle_72, rk_137, rc_137, rg_137_25, rg_137_27, rp_137_27, ra_155, rv_155, z3, i0, nI_pred, i1, i2, z1, i3, i4, i5, (eq_false h38 : (c = 38) = False), (eq_true h124 : (c = 124) = True), (eq_false g38 : (g = 38) = False), y27, y155, hx, hem, List.map_nil, List.map_cons, List.sum_cons, List.sum_nil, gcat_i, gcat_r, gcat_l, Nat.reduceAdd, Nat.reduceLeDiff, Nat.zero_le, Option.toList, List.cons_append, List.nil_append, gnk_i, gnk_r, gnk_n, gi_1, Nat.reduceLT, if_true, if_false]
    exact hQ
def oA (q : Bool) : List fT := if q then [(4, 0, 0)] else []
def oO (p : Bool) : List fT := if p then [(5, 0, 0)] else []
def wA (q : Bool) : List Nat := if q then [38] else []
def wO (p : Bool) : List Nat := if p then [124] else []
/-- nothing of E's own waits below -/
def vO (V : List Nat) : Prop := V = [] ∨ ∃ U, V = U ++ [40]
theorem vO_l {V : List Nat} (h : vO V) {p : Bool} {c : Nat} (hc : c ≠ 40) (hp : c ≠ 124) : (V ++ wO p).getLast? ≠ some c := by
  cases p
  · rw [wO, if_neg (by decide), List.append_nil]
    rcases h with rfl | ⟨U, rfl⟩
    · intro e; cases e
    · intro e
      rw [List.getLast?_concat] at e
      cases e
      exact hc rfl
  · rw [wO, if_pos rfl, List.getLast?_concat]
    intro e
    cases e
    exact hp rfl
theorem vO_l2 {V : List Nat} (h : vO V) {c : Nat} (hc : c ≠ 40) : V.getLast? ≠ some c := by
  rcases h with rfl | ⟨U, rfl⟩
  · intro e; cases e
  · intro e
    rw [List.getLast?_concat] at e
    cases e
    exact hc rfl
theorem d_settle38 {p q : Bool} (hV : vO V) (hB : dB B n b s) (hA : dA B n s a (V ++ wO p ++ wA q) o ts) (hQ : ∀ s', dF B cl s s' → dA B n s' a (V ++ wO p) o (ts ++ oA q) → Q none (gm_m s')) : gc_X w (d + 1) 131 0 [some (.ref 137), some (.int (nI 38))] [] (gm_m s) Q := by
  have hst : V ++ wO p = V ++ wO p := rfl
  cases q
  · rw [wA, if_neg (by decide), List.append_nil] at hA
    exact d_settle_stop hB hA (Or.inl rfl) ⟨vO_l hV (by decide) (by decide), fun e => by cases e⟩ (hQ s dF_refl (by rw [oA, if_neg (by decide), List.append_nil]; exact hA))
  · rw [wA, if_pos rfl] at hA
    refine d_settle_pop (cl := cl) hB hA (Or.inl rfl) (Or.inl rfl) (x := -38) rfl fc_4.symm (fun s1 hF1 hA1 => ?_)
    exact d_settle_stop (dB_F hB hF1) hA1 (Or.inl rfl) ⟨vO_l hV (by decide) (by decide), fun e => by cases e⟩ (hQ s1 hF1 hA1)
theorem d_settle124 {p q : Bool} (hV : vO V) (hB : dB B n b s) (hA : dA B n s a (V ++ wO p ++ wA q) o ts) (hQ : ∀ s', dF B cl s s' → dA B n s' a V o (ts ++ oA q ++ oO p) → Q none (gm_m s')) : gc_X w (d + 1) 131 0 [some (.ref 137), some (.int (nI 124))] [] (gm_m s) Q := by
  have h2 : ∀ (s1 : gm_S), dF B cl s s1 → dA B n s1 a (V ++ wO p) o (ts ++ oA q) → gc_X w (d + 1) 131 0 [some (.ref 137), some (.int (nI 124))] [] (gm_m s1) Q := by
    intro s1 hF1 hA1
    cases p
    · rw [wO, if_neg (by decide), List.append_nil] at hA1
      exact d_settle_stop (dB_F hB hF1) hA1 (Or.inr rfl) ⟨vO_l2 hV (by decide), fun _ => vO_l2 hV (by decide)⟩ (hQ s1 hF1 (by rw [oO, if_neg (by decide), List.append_nil]; exact hA1))
    · rw [wO, if_pos rfl] at hA1
      refine d_settle_pop (cl := cl) (dB_F hB hF1) hA1 (Or.inr rfl) (Or.inr ⟨rfl, rfl⟩) (x := -124) rfl fc_5.symm (fun s2 hF2 hA2 => ?_)
      exact d_settle_stop (dB_F hB (dF_trans hF1 hF2)) hA2 (Or.inr rfl) ⟨vO_l2 hV (by decide), fun _ => vO_l2 hV (by decide)⟩ (hQ s2 (dF_trans hF1 hF2) hA2)
  cases q
  · rw [wA, if_neg (by decide), List.append_nil] at hA
    exact h2 s dF_refl (by rw [oA, if_neg (by decide), List.append_nil]; exact hA)
  · rw [wA, if_pos rfl] at hA
    exact d_settle_pop (cl := cl) hB hA (Or.inr rfl) (Or.inl rfl) (x := -38) rfl fc_4.symm (fun s1 hF1 hA1 => h2 s1 hF1 hA1)
theorem d_place (hb : xb n b) {M : gc_M} : gc_X w d 132 0 [some (.ref 137), some (.int (xn n b a))] [] M Q = Q (some (.int (if xl (xt n b a) < 6 then nI (xl (xt n b a)) else -1))) M := by
  by_cases h : a < n
  · have e1 : xn n b a = nI (b a) := if_pos h
    have e2 : xt n b a = b a := if_pos h
    have h128 := hb a h
    rw [e1, e2]
    generalize b a = x at *
    have e : ∀ c, c < 128 → (nI x = nI c) = (x = c) := fun c hc => propext (nI_eq (by omega) (by omega))
    have q103 : (nI x = 103) = (x = 103) := e 103 (by decide)
    have q104 : (nI x = 104) = (x = 104) := e 104 (by decide)
    have q107 : (nI x = 107) = (x = 107) := e 107 (by decide)
    have q112 : (nI x = 112) = (x = 112) := e 112 (by decide)
    have q118 : (nI x = 118) = (x = 118) := e 118 (by decide)
    have q120 : (nI x = 120) = (x = 120) := e 120 (by decide)
    by_cases h1 : x = 112
    · subst h1; simp (decide := true) only [E_X12_place_0, E_X12_place_1, E_X12_place_88, E_X12_place_89, E_X12_place_90, E_X12_place_91, E_X12_place_92, E_X12_place_93, E_X12_place_94, E_X12_place_95, E_X12_place_96, E_X12_place_97, E_X12_place_98, E_X12_place_99, E_X12_place_100, E_X12_place_101, gnk_i, gnk_r, gnk_n, gi_1, Nat.reduceLT, if_true, if_false]; rfl
    by_cases h2 : x = 107
    · subst h2; simp (decide := true) only [E_X12_place_0, E_X12_place_1, E_X12_place_88, E_X12_place_89, E_X12_place_90, E_X12_place_91, E_X12_place_92, E_X12_place_93, E_X12_place_94, E_X12_place_95, E_X12_place_96, E_X12_place_97, E_X12_place_98, E_X12_place_99, E_X12_place_100, E_X12_place_101, gnk_i, gnk_r, gnk_n, gi_1, Nat.reduceLT, if_true, if_false]; rfl
    by_cases h3 : x = 118
    · subst h3; simp (decide := true) only [E_X12_place_0, E_X12_place_1, E_X12_place_88, E_X12_place_89, E_X12_place_90, E_X12_place_91, E_X12_place_92, E_X12_place_93, E_X12_place_94, E_X12_place_95, E_X12_place_96, E_X12_place_97, E_X12_place_98, E_X12_place_99, E_X12_place_100, E_X12_place_101, gnk_i, gnk_r, gnk_n, gi_1, Nat.reduceLT, if_true, if_false]; rfl
    by_cases h4 : x = 120
    · subst h4; simp (decide := true) only [E_X12_place_0, E_X12_place_1, E_X12_place_88, E_X12_place_89, E_X12_place_90, E_X12_place_91, E_X12_place_92, E_X12_place_93, E_X12_place_94, E_X12_place_95, E_X12_place_96, E_X12_place_97, E_X12_place_98, E_X12_place_99, E_X12_place_100, E_X12_place_101, gnk_i, gnk_r, gnk_n, gi_1, Nat.reduceLT, if_true, if_false]; rfl
    by_cases h5 : x = 103
    · subst h5; simp (decide := true) only [E_X12_place_0, E_X12_place_1, E_X12_place_88, E_X12_place_89, E_X12_place_90, E_X12_place_91, E_X12_place_92, E_X12_place_93, E_X12_place_94, E_X12_place_95, E_X12_place_96, E_X12_place_97, E_X12_place_98, E_X12_place_99, E_X12_place_100, E_X12_place_101, gnk_i, gnk_r, gnk_n, gi_1, Nat.reduceLT, if_true, if_false]; rfl
    by_cases h6 : x = 104
    · subst h6; simp (decide := true) only [E_X12_place_0, E_X12_place_1, E_X12_place_88, E_X12_place_89, E_X12_place_90, E_X12_place_91, E_X12_place_92, E_X12_place_93, E_X12_place_94, E_X12_place_95, E_X12_place_96, E_X12_place_97, E_X12_place_98, E_X12_place_99, E_X12_place_100, E_X12_place_101, gnk_i, gnk_r, gnk_n, gi_1, Nat.reduceLT, if_true, if_false]; rfl
    have hx : xl x = 6 := by
      unfold xl
      rw [if_neg h1, if_neg h2, if_neg h3, if_neg h4, if_neg h5, if_neg h6]
    rw [hx, if_neg (by decide)]
    simp only [E_X12_place_0, E_X12_place_1, E_X12_place_88, E_X12_place_89, E_X12_place_90, E_X12_place_91, E_X12_place_92, E_X12_place_93, E_X12_place_94, E_X12_place_95, E_X12_place_96, E_X12_place_97, E_X12_place_98, E_X12_place_99, E_X12_place_100, E_X12_place_101, q103, q104, q107, q112, q118, q120, h1, h2, h3, h4, h5, h6, ite_self, gnk_i, gnk_r, gnk_n, gi_1, Nat.reduceLT, if_true, if_false]
  · have e1 : xn n b a = -1 := if_neg h
    have e2 : xt n b a = 0 := if_neg h
    rw [e1, e2, if_neg (by decide)]
    simp (decide := true) only [E_X12_place_0, E_X12_place_1, E_X12_place_88, E_X12_place_89, E_X12_place_90, E_X12_place_91, E_X12_place_92, E_X12_place_93, E_X12_place_94, E_X12_place_95, E_X12_place_96, E_X12_place_97, E_X12_place_98, E_X12_place_99, E_X12_place_100, E_X12_place_101, gnk_i, gnk_r, gnk_n, gi_1, Nat.reduceLT, if_true, if_false]
theorem d_test_no1 (hB : dB B n b s) (hA : dA B n s a W o ts) (h : ¬ xl (xt n b a) < 6) (hQ : Q (some (.int 0)) (gm_m s)) : gc_X w (d + 3) 133 0 [some (.ref 137), none, none] [] (gm_m s) Q := by
  have hb := hB.2.2.2.1
  have hp := fun (d : Nat) (M : gc_M) (Q : Option Value → gc_M → Prop) => d_place (w := w) (d := d) (n := n) (a := a) (M := M) (Q := Q) hb
  simp only [h, if_false] at hp
  simp only [E_X12_takesTest_0, E_X12_takesTest_1, E_X12_takesTest_2, E_X12_takesTest_5, E_X12_takesTest_8, E_X12_takesTest_9, E_X12_takesTest_10, E_X12_takesTest_13, E_X12_takesTest_14, E_X12_takesTest_15, E_X12_takesTest_16, E_X12_takesTest_17, E_X12_takesTest_20, E_X12_takesTest_21, E_X12_takesTest_22, E_X12_takesTest_25, E_X12_takesTest_26, E_X12_takesTest_29, E_X12_takesTest_30, E_X12_takesTest_31, E_X12_takesTest_32, E_X12_takesTest_34, E_X12_takesTest_36, E_X12_takesTest_39, E_X12_takesTest_42, E_X12_takesTest_43, E_X12_takesTest_44, E_X12_takesTest_45, E_X12_takesTest_46, E_X12_takesTest_49, E_X12_takesTest_50, E_X12_takesTest_51, E_X12_takesTest_54, E_X12_takesTest_55, E_X12_takesTest_58, E_X12_takesTest_61, E_X12_takesTest_62, E_X12_takesTest_63, E_X12_takesTest_64, E_X12_takesTest_67, E_X12_takesTest_68, E_X12_takesTest_69, E_X12_takesTest_71, E_X12_takesTest_72, E_X12_takesTest_74, E_X12_takesTest_75, E_X12_takesTest_76, E_X12_takesTest_77, E_X12_takesTest_78, E_X12_takesTest_81, E_X12_takesTest_82, E_X12_takesTest_85, E_X12_takesTest_86, E_X12_takesTest_89, E_X12_takesTest_90, d_next hB hA.1 hA.2.1, hp, gz_m1, rc_137, gb_n0, List.map_nil, List.map_cons, List.sum_cons, List.sum_nil, gcat_i, gcat_r, gcat_l, Nat.reduceAdd, Nat.reduceLeDiff, Nat.zero_le, Option.toList, List.cons_append, List.nil_append, gnk_i, gnk_r, gnk_n, gi_1, Nat.reduceLT, if_true, if_false]
  exact hQ
theorem d_test_no2 (hB : dB B n b s) (hA : dA B n s a W o ts) (h : xl (xt n b a) < 6) (h2 : ¬ xh (xt n b (a + 1)) < 3) (hQ : ∀ s', dF B cl s s' → s'.1 137 16 = nI (a + 1) → Q (some (.int 0)) (gm_m s')) : gc_X w (d + 3) 133 0 [some (.ref 137), none, none] [] (gm_m s) Q := by
  have hb := hB.2.2.2.1
  have hp := fun (d : Nat) (M : gc_M) (Q : Option Value → gc_M → Prop) => d_place (w := w) (d := d) (n := n) (a := a) (M := M) (Q := Q) hb
  simp only [h, if_true] at hp
  have ha : a < n := xt_lt (xl_pos h)
  have hA1 : dA B n (gm_si s 137 16 (nI (a + 1))) (a + 1) W o ts := dA_16 hA (by omega) (by omega)
  have hF1 : dF B cl s (gm_si s 137 16 (nI (a + 1))) := dF_si (by decide)
  have hB1 := dB_F hB hF1
  have e1 : 0 ≤ nI (xl (xt n b a)) := nI_pos' (by omega)
  have e2 : gB_in (xn n b (a + 1)) 60 62 = decide (xh (xt n b (a + 1)) < 3) := (d_in hb (by decide) (by decide) (by decide)).trans xh_in
  rw [decide_eq_false h2] at e2
  have hm := fun (d : Nat) (s : gm_S) (Q : Option Value → gc_M → Prop) => m_in (w := w) (d := d) (s := s) (x := xn n b (a + 1)) (y := 60) (z := 62) (Q := Q)
  simp only [E_X12_takesTest_0, E_X12_takesTest_1, E_X12_takesTest_2, E_X12_takesTest_5, E_X12_takesTest_8, E_X12_takesTest_9, E_X12_takesTest_10, E_X12_takesTest_13, E_X12_takesTest_14, E_X12_takesTest_15, E_X12_takesTest_16, E_X12_takesTest_17, E_X12_takesTest_20, E_X12_takesTest_21, E_X12_takesTest_22, E_X12_takesTest_25, E_X12_takesTest_26, E_X12_takesTest_29, E_X12_takesTest_30, E_X12_takesTest_31, E_X12_takesTest_32, E_X12_takesTest_34, E_X12_takesTest_36, E_X12_takesTest_39, E_X12_takesTest_42, E_X12_takesTest_43, E_X12_takesTest_44, E_X12_takesTest_45, E_X12_takesTest_46, E_X12_takesTest_49, E_X12_takesTest_50, E_X12_takesTest_51, E_X12_takesTest_54, E_X12_takesTest_55, E_X12_takesTest_58, E_X12_takesTest_61, E_X12_takesTest_62, E_X12_takesTest_63, E_X12_takesTest_64, E_X12_takesTest_67, E_X12_takesTest_68, E_X12_takesTest_69, E_X12_takesTest_71, E_X12_takesTest_72, E_X12_takesTest_74, E_X12_takesTest_75, E_X12_takesTest_76, E_X12_takesTest_77, E_X12_takesTest_78, E_X12_takesTest_81, E_X12_takesTest_82, E_X12_takesTest_85, E_X12_takesTest_86, E_X12_takesTest_89, E_X12_takesTest_90, d_next hB hA.1 hA.2.1, d_next hB1 hA1.1 hA1.2.1, hp, e1, hA.1, hm, e2, rc_137, rk_137, rg_137_16, rp_137_16, nI_1, gb_0, gb_n0, List.map_nil, List.map_cons, List.sum_cons, List.sum_nil, gcat_i, gcat_r, gcat_l, Nat.reduceAdd, Nat.reduceLeDiff, Nat.zero_le, Option.toList, List.cons_append, List.nil_append, gnk_i, gnk_r, gnk_n, gi_1, Nat.reduceLT, if_true, if_false]
  exact hQ _ hF1 hA1.1
theorem d_test_no3 (hB : dB B n b s) (hA : dA B n s a W o ts) (h : xl (xt n b a) < 6) (h2 : xh (xt n b (a + 1)) < 3) (h3 : pN (xt n b) (a + 2) = none) (hQ : ∀ s', dF B cl s s' → s'.1 137 16 = nI (a + 2) → Q (some (.int 0)) (gm_m s')) : gc_X w (d + 3) 133 0 [some (.ref 137), none, none] [] (gm_m s) Q := by
  have hb := hB.2.2.2.1
  have hp := fun (d : Nat) (M : gc_M) (Q : Option Value → gc_M → Prop) => d_place (w := w) (d := d) (n := n) (a := a) (M := M) (Q := Q) hb
  simp only [h, if_true] at hp
  have ha : a + 1 < n := xt_lt (xh_pos h2)
  have hA1 : dA B n (gm_si s 137 16 (nI (a + 1))) (a + 1) W o ts := dA_16 hA (by omega) (by omega)
  have hF1 : dF B cl s (gm_si s 137 16 (nI (a + 1))) := dF_si (by decide)
  have hB1 := dB_F hB hF1
  have hA2 : dA B n (gm_si (gm_si s 137 16 (nI (a + 1))) 137 16 (nI (a + 2))) (a + 2) W o ts := dA_16 hA1 (by omega) (by omega)
  have hF2 : dF B cl s (gm_si (gm_si s 137 16 (nI (a + 1))) 137 16 (nI (a + 2))) := dF_trans hF1 (dF_si (by decide))
  have hB2 := dB_F hB hF2
  have e1 : 0 ≤ nI (xl (xt n b a)) := nI_pos' (by omega)
  have e2 : gB_in (xn n b (a + 1)) 60 62 = decide (xh (xt n b (a + 1)) < 3) := (d_in hb (by decide) (by decide) (by decide)).trans xh_in
  rw [decide_eq_true h2] at e2
  have hm := fun (d : Nat) (s : gm_S) (Q : Option Value → gc_M → Prop) => m_in (w := w) (d := d) (s := s) (x := xn n b (a + 1)) (y := 60) (z := 62) (Q := Q)
  have hnum := fun (Q : Option Value → gc_M → Prop) => d_num_no (w := w) (d := d) (Q := Q) hB2 hA2.1 hA2.2.1 h3
  simp only [E_X12_takesTest_0, E_X12_takesTest_1, E_X12_takesTest_2, E_X12_takesTest_5, E_X12_takesTest_8, E_X12_takesTest_9, E_X12_takesTest_10, E_X12_takesTest_13, E_X12_takesTest_14, E_X12_takesTest_15, E_X12_takesTest_16, E_X12_takesTest_17, E_X12_takesTest_20, E_X12_takesTest_21, E_X12_takesTest_22, E_X12_takesTest_25, E_X12_takesTest_26, E_X12_takesTest_29, E_X12_takesTest_30, E_X12_takesTest_31, E_X12_takesTest_32, E_X12_takesTest_34, E_X12_takesTest_36, E_X12_takesTest_39, E_X12_takesTest_42, E_X12_takesTest_43, E_X12_takesTest_44, E_X12_takesTest_45, E_X12_takesTest_46, E_X12_takesTest_49, E_X12_takesTest_50, E_X12_takesTest_51, E_X12_takesTest_54, E_X12_takesTest_55, E_X12_takesTest_58, E_X12_takesTest_61, E_X12_takesTest_62, E_X12_takesTest_63, E_X12_takesTest_64, E_X12_takesTest_67, E_X12_takesTest_68, E_X12_takesTest_69, E_X12_takesTest_71, E_X12_takesTest_72, E_X12_takesTest_74, E_X12_takesTest_75, E_X12_takesTest_76, E_X12_takesTest_77, E_X12_takesTest_78, E_X12_takesTest_81, E_X12_takesTest_82, E_X12_takesTest_85, E_X12_takesTest_86, E_X12_takesTest_89, E_X12_takesTest_90, d_next hB hA.1 hA.2.1, d_next hB1 hA1.1 hA1.2.1, hp, e1, hA.1, hA1.1, hm, e2, hnum, rc_137, rk_137, rg_137_16, rp_137_16, nI_1, Nat.add_assoc, Nat.reduceAdd, gb_1, g1_0, gb_n0, List.map_nil, List.map_cons, List.sum_cons, List.sum_nil, gcat_i, gcat_r, gcat_l, Nat.reduceAdd, Nat.reduceLeDiff, Nat.zero_le, Option.toList, List.cons_append, List.nil_append, gnk_i, gnk_r, gnk_n, gi_1, Nat.reduceLT, if_true, if_false]
  exact hQ _ hF2 hA2.1
theorem d_test_ok {a' v m : Nat} (hB : dB B n b s) (hA : dA B n s a (V ++ List.replicate m 33) (o + m) ts) (hV : V.getLast? ≠ some 33) (h : xl (xt n b a) < 6) (h2 : xh (xt n b (a + 1)) < 3) (h3 : pN (xt n b) (a + 2) = some (a', v)) (hQ : ∀ s', dF B cl s s' → dA B n s' a' V o (ts ++ [(xh (xt n b (a + 1)), xl (xt n b a), v)] ++ List.replicate m (3, 0, 0)) → Q (some (.int 1)) (gm_m s')) : gc_X w (d + 3) 133 0 [some (.ref 137), none, none] [] (gm_m s) Q := by
  have hb := hB.2.2.2.1
  have h100 := hB.2.1
  have hB5 := hB.1
  have hlt := pN_lt h3
  have hp := fun (d : Nat) (M : gc_M) (Q : Option Value → gc_M → Prop) => d_place (w := w) (d := d) (n := n) (a := a) (M := M) (Q := Q) hb
  simp only [h, if_true] at hp
  have ha : a + 1 < n := xt_lt (xh_pos h2)
  have hA1 : dA B n (gm_si s 137 16 (nI (a + 1))) (a + 1) (V ++ List.replicate m 33) (o + m) ts := dA_16 hA (by omega) (by omega)
  have hF1 : dF B cl s (gm_si s 137 16 (nI (a + 1))) := dF_si (by decide)
  have hB1 := dB_F hB hF1
  have hA2 : dA B n (gm_si (gm_si s 137 16 (nI (a + 1))) 137 16 (nI (a + 2))) (a + 2) (V ++ List.replicate m 33) (o + m) ts := dA_16 hA1 (by omega) (by omega)
  have hF2 : dF B cl s (gm_si (gm_si s 137 16 (nI (a + 1))) 137 16 (nI (a + 2))) := dF_trans hF1 (dF_si (by decide))
  have hB2 := dB_F hB hF2
  have e1 : 0 ≤ nI (xl (xt n b a)) := nI_pos' (by omega)
  have e2 : gB_in (xn n b (a + 1)) 60 62 = decide (xh (xt n b (a + 1)) < 3) := (d_in hb (by decide) (by decide) (by decide)).trans xh_in
  rw [decide_eq_true h2] at e2
  have hm := fun (d : Nat) (s : gm_S) (Q : Option Value → gc_M → Prop) => m_in (w := w) (d := d) (s := s) (x := xn n b (a + 1)) (y := 60) (z := 62) (Q := Q)
  have x2 : xn n b (a + 1) - 60 = nI (xh (xt n b (a + 1))) := by
    have q := xh_is h2
    rw [xn_of (xh_pos h2)]
    exact (nI_sub (y := 60) (by omega)).trans (by congr 1; omega)
  have y : 1000 * nI (xl (xt n b a)) + 100 * nI (xh (xt n b (a + 1))) + nI v = fT_code (xh (xt n b (a + 1)), xl (xt n b a), v) := by
    have m1 : 1000 * nI (xl (xt n b a)) = nI (1000 * xl (xt n b a)) := nI_mul 1000 _
    have m2 : 100 * nI (xh (xt n b (a + 1))) = nI (100 * xh (xt n b (a + 1))) := nI_mul 100 _
    rw [m1, m2, nI_add, nI_add]
    unfold fT_code
    rw [if_neg (by show ¬ xh _ = 3; omega), if_neg (by show ¬ xh _ = 4; omega), if_neg (by show ¬ xh _ = 5; omega)]
  simp only [E_X12_takesTest_0, E_X12_takesTest_1, E_X12_takesTest_2, E_X12_takesTest_5, E_X12_takesTest_8, E_X12_takesTest_9, E_X12_takesTest_10, E_X12_takesTest_13, E_X12_takesTest_14, E_X12_takesTest_15, E_X12_takesTest_16, E_X12_takesTest_17, E_X12_takesTest_20, E_X12_takesTest_21, E_X12_takesTest_22, E_X12_takesTest_25, E_X12_takesTest_26, E_X12_takesTest_29, E_X12_takesTest_30, E_X12_takesTest_31, E_X12_takesTest_32, E_X12_takesTest_34, E_X12_takesTest_36, E_X12_takesTest_39, E_X12_takesTest_42, E_X12_takesTest_43, E_X12_takesTest_44, E_X12_takesTest_45, E_X12_takesTest_46, E_X12_takesTest_49, E_X12_takesTest_50, E_X12_takesTest_51, E_X12_takesTest_54, E_X12_takesTest_55, E_X12_takesTest_58, E_X12_takesTest_61, E_X12_takesTest_62, E_X12_takesTest_63, E_X12_takesTest_64, E_X12_takesTest_67, E_X12_takesTest_68, E_X12_takesTest_69, E_X12_takesTest_71, E_X12_takesTest_72, E_X12_takesTest_74, E_X12_takesTest_75, E_X12_takesTest_76, E_X12_takesTest_77, E_X12_takesTest_78, E_X12_takesTest_81, E_X12_takesTest_82, E_X12_takesTest_85, E_X12_takesTest_86, E_X12_takesTest_89, E_X12_takesTest_90, d_next hB hA.1 hA.2.1, d_next hB1 hA1.1 hA1.2.1, hp, e1, hA.1, hA1.1, hm, e2, rc_137, rk_137, rg_137_16, rp_137_16, nI_1, Nat.add_assoc, Nat.reduceAdd, gb_1, g1_0, List.map_nil, List.map_cons, List.sum_cons, List.sum_nil, gcat_i, gcat_r, gcat_l, Nat.reduceAdd, Nat.reduceLeDiff, Nat.zero_le, Option.toList, List.cons_append, List.nil_append, gnk_i, gnk_r, gnk_n, gi_1, Nat.reduceLT, if_true, if_false]
  refine d_num_ok (cl := cl) hB2 hA2 h3 (fun s3 hF3 hA3 h17 => ?_)
  have h26 := hA3.2.2.2.2.2.1
  have hl := hA.2.2.2.2.2.2.1
  have hem := fun (d : Nat) (x : Int32) (Q : Option Value → gc_M → Prop) => d_emit (w := w) (d := d) (x := x) (Q := Q) h26 (by omega)
  simp only [E_X12_takesTest_0, E_X12_takesTest_1, E_X12_takesTest_2, E_X12_takesTest_5, E_X12_takesTest_8, E_X12_takesTest_9, E_X12_takesTest_10, E_X12_takesTest_13, E_X12_takesTest_14, E_X12_takesTest_15, E_X12_takesTest_16, E_X12_takesTest_17, E_X12_takesTest_20, E_X12_takesTest_21, E_X12_takesTest_22, E_X12_takesTest_25, E_X12_takesTest_26, E_X12_takesTest_29, E_X12_takesTest_30, E_X12_takesTest_31, E_X12_takesTest_32, E_X12_takesTest_34, E_X12_takesTest_36, E_X12_takesTest_39, E_X12_takesTest_42, E_X12_takesTest_43, E_X12_takesTest_44, E_X12_takesTest_45, E_X12_takesTest_46, E_X12_takesTest_49, E_X12_takesTest_50, E_X12_takesTest_51, E_X12_takesTest_54, E_X12_takesTest_55, E_X12_takesTest_58, E_X12_takesTest_61, E_X12_takesTest_62, E_X12_takesTest_63, E_X12_takesTest_64, E_X12_takesTest_67, E_X12_takesTest_68, E_X12_takesTest_69, E_X12_takesTest_71, E_X12_takesTest_72, E_X12_takesTest_74, E_X12_takesTest_75, E_X12_takesTest_76, E_X12_takesTest_77, E_X12_takesTest_78, E_X12_takesTest_81, E_X12_takesTest_82, E_X12_takesTest_85, E_X12_takesTest_86, E_X12_takesTest_89, E_X12_takesTest_90, rc_137, rk_137, rg_137_17, h17, x2, y, hem, g1_0, List.map_nil, List.map_cons, List.sum_cons, List.sum_nil, gcat_i, gcat_r, gcat_l, Nat.reduceAdd, Nat.reduceLeDiff, Nat.zero_le, Option.toList, List.cons_append, List.nil_append, gnk_i, gnk_r, gnk_n, gi_1, Nat.reduceLT, if_true, if_false]
  have hA4 := dA_E (x := fT_code (xh (xt n b (a + 1)), xl (xt n b a), v)) hA3 (by omega) rfl
  have hF4 : dF B cl s (sE s3 (B + ts.length) (fT_code (xh (xt n b (a + 1)), xl (xt n b a), v))) := dF_trans hF2 (dF_trans hF3 (dF_E (by omega)))
  refine d_whole (cl := cl) m _ _ _ rfl hV (dB_F hB hF4) hA4 (fun s5 hF5 hA5 => ?_)
  simp only [E_X12_takesTest_0, E_X12_takesTest_1, E_X12_takesTest_2, E_X12_takesTest_5, E_X12_takesTest_8, E_X12_takesTest_9, E_X12_takesTest_10, E_X12_takesTest_13, E_X12_takesTest_14, E_X12_takesTest_15, E_X12_takesTest_16, E_X12_takesTest_17, E_X12_takesTest_20, E_X12_takesTest_21, E_X12_takesTest_22, E_X12_takesTest_25, E_X12_takesTest_26, E_X12_takesTest_29, E_X12_takesTest_30, E_X12_takesTest_31, E_X12_takesTest_32, E_X12_takesTest_34, E_X12_takesTest_36, E_X12_takesTest_39, E_X12_takesTest_42, E_X12_takesTest_43, E_X12_takesTest_44, E_X12_takesTest_45, E_X12_takesTest_46, E_X12_takesTest_49, E_X12_takesTest_50, E_X12_takesTest_51, E_X12_takesTest_54, E_X12_takesTest_55, E_X12_takesTest_58, E_X12_takesTest_61, E_X12_takesTest_62, E_X12_takesTest_63, E_X12_takesTest_64, E_X12_takesTest_67, E_X12_takesTest_68, E_X12_takesTest_69, E_X12_takesTest_71, E_X12_takesTest_72, E_X12_takesTest_74, E_X12_takesTest_75, E_X12_takesTest_76, E_X12_takesTest_77, E_X12_takesTest_78, E_X12_takesTest_81, E_X12_takesTest_82, E_X12_takesTest_85, E_X12_takesTest_86, E_X12_takesTest_89, E_X12_takesTest_90, gb_n1, List.map_nil, List.map_cons, List.sum_cons, List.sum_nil, gcat_i, gcat_r, gcat_l, Nat.reduceAdd, Nat.reduceLeDiff, Nat.zero_le, Option.toList, List.cons_append, List.nil_append, gnk_i, gnk_r, gnk_n, gi_1, Nat.reduceLT, if_true, if_false]
  exact hQ s5 (dF_trans hF4 hF5) hA5
end
