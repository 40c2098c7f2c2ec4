/-! FIRM, the class: words, letters -/
def wd (j : Nat) : List Nat := ([[98, 101, 97, 114], [104, 97, 110, 103], [115, 116, 114, 111, 110, 103], [119, 101, 97, 107]] : List (List Nat)).getD j []
theorem nI_o {n : Nat} : Int32.ofNat n = nI n := rfl
theorem tx_ch : ∀ j, j < 6 → ∀ i, i < 6 → ((gc_txb j).getD i 0 &&& 255) = (gc_txb j).getD i 0 ∧ (((gc_txb j).getD i 0).toUInt32 % 65536).toInt32 = (gc_txb j).getD i 0 ∧ vp_nar .char ((gc_txb j).getD i 0) = (gc_txb j).getD i 0 := by decide +kernel
theorem tx_ln : ∀ j, j < 6 → nI (gc_txb j).length >>> (0 &&& 31) = nI (gc_txb j).length ∧ (gc_txb j).length ≤ 6 ∧ 0 < (gc_txb j).length := by decide +kernel
theorem tx_wd : ∀ j, j < 4 → (gc_txb j).length = (wd j).length ∧ (wd j).length ≤ 6 ∧ ∀ i, i < 6 → (gc_txb j).getD i 0 = nI ((wd j).getD i 0) ∧ (wd j).getD i 0 < 128 ∧ (i < (wd j).length → 0 < (wd j).getD i 0) := by decide +kernel
theorem tx_by : ∀ x, x < 128 → ((nI x).toUInt32 % 65536).toInt32 = nI x ∧ ¬ nI x < 0 ∧ ¬ (255 : Int32) < nI x := by decide +kernel
theorem tx_xl : ∀ x, x < 128 → gp_i (gp_first (fun q => decide ((gc_txb 4).getD q 0 = nI x)) (gc_txb 4).length 0) (-1) = if xl x < 6 then nI (xl x) else -1 := by decide +kernel
theorem tx_xh : ∀ x, x < 128 → gp_i (gp_first (fun q => decide ((gc_txb 5).getD q 0 = nI x)) (gc_txb 5).length 0) (-1) = if xh x < 3 then nI (xh x) else -1 := by decide +kernel
theorem gnb0 : vp_nar .byte 0 = 0 := Eq.trans rfl rfl
theorem gi_00 : ((0 : Int32) < 0) = False := eq_false (by decide)
theorem drop_getD {l : List Nat} {i : Nat} (h : i < l.length) : l.drop i = l.getD i 0 :: l.drop (i + 1) := by
  rw [List.drop_eq_getElem_cons h, List.getD_eq_getElem?_getD, List.getElem?_eq_getElem h]
  rfl
section
variable {w : Nat × (Nat → Int32)} {d : Nat} {M : gc_M} {Q : Option Value → gc_M → Prop}
theorem j_len {r j : Nat} (hr : r = 1000000 + j) (hj : j < 6) : gc_X w (d + 1) 204 0 [some (.ref r)] [] M Q = Q (some (.int (nI (gc_txb j).length))) M := by
  have a1 : 1000000 ≤ r := by omega
  have a2 : r < 1000006 := by omega
  have a3 : 1000010 ≤ r + 10 := by omega
  have a4 : r + 10 < 1000016 := by omega
  have a5 : r + 10 - 1000010 = j := by omega
  simp only [E_J0_length_8abf5_0, E_J0_length_8abf5_1, E_J0_length_8abf5_4, E_J0_length_8abf5_5, E_J0_length_8abf5_6, E_J0_length_8abf5_9, E_J0_length_8abf5_10, E_J0_coder_7d493_0, E_J0_coder_7d493_3, E_J0_coder_7d493_6, E_J0_coder_7d493_7, E_J0_coder_7d493_10, E_J0_coder_7d493_13, E_J0_coder_7d493_14, a1, a2, a3, a4, a5, and_self, nI_o, gnb0, (tx_ln j hj).1, g1_0, List.map_nil, List.map_cons, List.sum_cons, List.sum_nil, gcat_i, gcat_r, gcat_l, Nat.reduceAdd, Nat.reduceLeDiff, Nat.zero_le, Option.toList, List.cons_append, List.nil_append, gnk_i, gnk_r, gnk_n, gi_1, Nat.reduceLT, if_true, if_false]
theorem j_isL {r j : Nat} (hr : r = 1000000 + j) (hj : j < 6) : gc_X w d 209 0 [some (.ref r)] [] M Q = Q (some (.int 1)) M := by
  have a1 : 1000000 ≤ r := by omega
  have a2 : r < 1000006 := by omega
  simp only [E_J0_isLatin1_aae02_0, E_J0_isLatin1_aae02_3, E_J0_isLatin1_aae02_6, E_J0_isLatin1_aae02_7, E_J0_isLatin1_aae02_10, E_J0_isLatin1_aae02_13, E_J0_isLatin1_aae02_14, E_J0_isLatin1_aae02_17, E_J0_isLatin1_aae02_18, E_J0_isLatin1_aae02_0, E_J0_isLatin1_aae02_3, E_J0_isLatin1_aae02_6, E_J0_isLatin1_aae02_7, E_J0_isLatin1_aae02_10, E_J0_isLatin1_aae02_13, E_J0_isLatin1_aae02_14, E_J0_isLatin1_aae02_17, E_J0_isLatin1_aae02_18, a1, a2, and_self, g1_0, gb_n1, List.map_nil, List.map_cons, List.sum_cons, List.sum_nil, gcat_i, gcat_r, gcat_l, Nat.reduceAdd, Nat.reduceLeDiff, Nat.zero_le, Option.toList, List.cons_append, List.nil_append, gnk_i, gnk_r, gnk_n, gi_1, Nat.reduceLT, if_true, if_false]
theorem j_chk {x y : Int32} {r : Nat} (h1 : ¬ x < 0) (h2 : x < y) : gc_X w d 215 0 [some (.int x), some (.int y), some (.ref r)] [] M Q = Q (some (.int x)) M := by
  simp only [E_J3_checkIndex_8e157_0, E_J3_checkIndex_8e157_1, E_J3_checkIndex_8e157_4, E_J3_checkIndex_8e157_5, E_J3_checkIndex_8e157_6, E_J3_checkIndex_8e157_9, E_J3_checkIndex_8e157_10, E_J3_checkIndex_8e157_11, E_J3_checkIndex_8e157_16, E_J3_checkIndex_8e157_17, h1, h2, List.map_nil, List.map_cons, List.sum_cons, List.sum_nil, gcat_i, gcat_r, gcat_l, Nat.reduceAdd, Nat.reduceLeDiff, Nat.zero_le, Option.toList, List.cons_append, List.nil_append, gnk_i, gnk_r, gnk_n, gi_1, Nat.reduceLT, if_true, if_false]
theorem j_charAt {r j i : Nat} (hr : r = 1000000 + j) (hj : j < 6) (hi : i < (gc_txb j).length) : gc_X w (d + 3) 205 0 [some (.ref r), some (.int (nI i))] [] M Q = Q (some (.int ((gc_txb j).getD i 0))) M := by
  have h6 := (tx_ln j hj).2.1
  have a1 : 1000000 ≤ r := by omega
  have a2 : r < 1000006 := by omega
  have a3 : 1000010 ≤ r + 10 := by omega
  have a4 : r + 10 < 1000016 := by omega
  have a5 : r + 10 - 1000010 = j := by omega
  have i1 : vp_in (nI i) (gc_txb j).length := vp_in_nI hi (by omega)
  have i2 : (nI i).toNatClampNeg = i := nI_clamp (by omega)
  have i3 : ¬ nI i < 0 := nI_pos (by omega)
  have i4 : nI i < nI (gc_txb j).length := nI_lt hi (by omega)
  obtain ⟨t1, t2, t3⟩ := tx_ch j hj i (by omega)
  simp only [E_J0_charAt_5068e_0, E_J0_charAt_5068e_1, E_J0_charAt_5068e_4, E_J0_charAt_5068e_7, E_J0_charAt_5068e_8, E_J0_charAt_5068e_11, E_J0_charAt_5068e_12, E_J0_charAt_5068e_15, E_J0_charAt_5068e_16, E_J0_charAt_5068e_17, E_J0_charAt_5068e_20, E_J0_charAt_5068e_24, E_J1_charAt_3b067_0, E_J1_charAt_3b067_1, E_J1_charAt_3b067_2, E_J1_charAt_3b067_3, E_J1_charAt_3b067_6, E_J1_charAt_3b067_7, E_J1_charAt_3b067_8, E_J1_charAt_3b067_9, E_J1_charAt_3b067_12, E_J1_charAt_3b067_13, E_J1_charAt_3b067_14, E_J0_checkIndex_df160_0, E_J0_checkIndex_df160_1, E_J0_checkIndex_df160_2, E_J0_checkIndex_df160_5, E_J0_checkIndex_df160_8, E_J0_checkIndex_df160_9, E_J0_checkIndex_df160_0, E_J0_checkIndex_df160_1, E_J0_checkIndex_df160_2, E_J0_checkIndex_df160_5, E_J0_checkIndex_df160_8, E_J0_checkIndex_df160_9, j_isL hr hj, j_chk i3 i4, a1, a2, a3, a4, a5, and_self, nI_o, i1, i2, t1, t2, t3, g1_0, List.map_nil, List.map_cons, List.sum_cons, List.sum_nil, gcat_i, gcat_r, gcat_l, Nat.reduceAdd, Nat.reduceLeDiff, Nat.zero_le, Option.toList, List.cons_append, List.nil_append, gnk_i, gnk_r, gnk_n, gi_1, Nat.reduceLT, if_true, if_false]
theorem j_idx_loop {r j x : Nat} {l1 l2 : Option Value} (hr : r = 1000010 + j) (hj : j < 6) (hx : x < 128) : ∀ (m i : Nat), i + m = (gc_txb j).length → gc_X w d 214 7 [some (.ref r), l1, l2, some (.int (nI (gc_txb j).length)), some (.int (nI x)), some (.int (nI i))] [] M Q = Q (some (.int (gp_i (gp_first (fun q => decide ((gc_txb j).getD q 0 = nI x)) m i) (-1)))) M := by
  intro m
  have h6 := (tx_ln j hj).2.1
  have a3 : 1000010 ≤ r := by omega
  have a4 : r < 1000016 := by omega
  have a5 : r - 1000010 = j := by omega
  induction m with
  | zero =>
    intro i hi
    have e : nI (gc_txb j).length ≤ nI i := nI_le (by omega) (by omega)
    rw [E_J1_indexOfChar_4cfef_7]
    simp only [E_J1_indexOfChar_4cfef_0, E_J1_indexOfChar_4cfef_1, E_J1_indexOfChar_4cfef_2, E_J1_indexOfChar_4cfef_4, E_J1_indexOfChar_4cfef_5, E_J1_indexOfChar_4cfef_9, E_J1_indexOfChar_4cfef_10, E_J1_indexOfChar_4cfef_13, E_J1_indexOfChar_4cfef_14, E_J1_indexOfChar_4cfef_16, E_J1_indexOfChar_4cfef_17, E_J1_indexOfChar_4cfef_19, E_J1_indexOfChar_4cfef_22, E_J1_indexOfChar_4cfef_24, E_J1_indexOfChar_4cfef_25, E_J1_indexOfChar_4cfef_28, E_J1_indexOfChar_4cfef_31, E_J1_indexOfChar_4cfef_32, e, gp_first, gp_i, gnk_i, gnk_r, gnk_n, gi_1, Nat.reduceLT, if_true, if_false]
  | succ m ih =>
    intro i hi
    have e : ¬ nI (gc_txb j).length ≤ nI i := nI_ge (by omega) (by omega)
    have i1 : vp_in (nI i) (gc_txb j).length := vp_in_nI (by omega) (by omega)
    have i2 : (nI i).toNatClampNeg = i := nI_clamp (by omega)
    have hi2 := ih (i + 1) (by omega)
    rw [nI_succ] at hi2
    rw [E_J1_indexOfChar_4cfef_7, gp_first]
    by_cases h : (gc_txb j).getD i 0 = nI x
    · rw [decide_eq_true h, if_pos rfl, gp_i]
      simp only [E_J1_indexOfChar_4cfef_0, E_J1_indexOfChar_4cfef_1, E_J1_indexOfChar_4cfef_2, E_J1_indexOfChar_4cfef_4, E_J1_indexOfChar_4cfef_5, E_J1_indexOfChar_4cfef_9, E_J1_indexOfChar_4cfef_10, E_J1_indexOfChar_4cfef_13, E_J1_indexOfChar_4cfef_14, E_J1_indexOfChar_4cfef_16, E_J1_indexOfChar_4cfef_17, E_J1_indexOfChar_4cfef_19, E_J1_indexOfChar_4cfef_22, E_J1_indexOfChar_4cfef_24, E_J1_indexOfChar_4cfef_25, E_J1_indexOfChar_4cfef_28, E_J1_indexOfChar_4cfef_31, E_J1_indexOfChar_4cfef_32, e, a3, a4, a5, and_self, i1, i2, h, gnk_i, gnk_r, gnk_n, gi_1, Nat.reduceLT, if_true, if_false]
    · rw [decide_eq_false h, if_neg (by decide)]
      simp only [E_J1_indexOfChar_4cfef_0, E_J1_indexOfChar_4cfef_1, E_J1_indexOfChar_4cfef_2, E_J1_indexOfChar_4cfef_4, E_J1_indexOfChar_4cfef_5, E_J1_indexOfChar_4cfef_9, E_J1_indexOfChar_4cfef_10, E_J1_indexOfChar_4cfef_13, E_J1_indexOfChar_4cfef_14, E_J1_indexOfChar_4cfef_16, E_J1_indexOfChar_4cfef_17, E_J1_indexOfChar_4cfef_19, E_J1_indexOfChar_4cfef_22, E_J1_indexOfChar_4cfef_24, E_J1_indexOfChar_4cfef_25, E_J1_indexOfChar_4cfef_28, E_J1_indexOfChar_4cfef_31, E_J1_indexOfChar_4cfef_32, e, a3, a4, a5, and_self, i1, i2, h, hi2, gnk_i, gnk_r, gnk_n, gi_1, Nat.reduceLT, if_true, if_false]
theorem j_idx {r j x : Nat} (hr : r = 1000000 + j) (hj : j < 6) (hx : x < 128) : gc_X w (d + 3) 206 0 [some (.ref r), some (.int (nI x))] [] M Q = Q (some (.int (gp_i (gp_first (fun q => decide ((gc_txb j).getD q 0 = nI x)) (gc_txb j).length 0) (-1)))) M := by
  have h6 := (tx_ln j hj).2
  have a1 : 1000000 ≤ r := by omega
  have a2 : r < 1000006 := by omega
  have a3 : 1000010 ≤ r + 10 := by omega
  have a4 : r + 10 < 1000016 := by omega
  have a5 : r + 10 - 1000010 = j := by omega
  have e1 : ¬ nI (gc_txb j).length < nI (gc_txb j).length := nI_nlt (Nat.le_refl _) (by omega)
  have e2 : 0 < nI (gc_txb j).length := nI_lt (a := 0) h6.2 (by omega)
  obtain ⟨t1, t2, t3⟩ := tx_by x hx
  have t4 := (fa_byte x hx).1
  have hl := fun l1 l2 Q => j_idx_loop (w := w) (d := d) (M := M) (Q := Q) (r := r + 10) (l1 := l1) (l2 := l2) (by omega) hj hx (gc_txb j).length 0 (by omega)
  rw [nI_0] at hl
  simp only [E_J0_indexOf_0f7a4_0, E_J0_indexOf_0f7a4_1, E_J0_indexOf_0f7a4_2, E_J0_indexOf_0f7a4_3, E_J0_indexOf_0f7a4_6, E_J0_indexOf_7cf53_0, E_J0_indexOf_7cf53_1, E_J0_indexOf_7cf53_4, E_J0_indexOf_7cf53_7, E_J0_indexOf_7cf53_8, E_J0_indexOf_7cf53_11, E_J0_indexOf_7cf53_12, E_J0_indexOf_7cf53_13, E_J0_indexOf_7cf53_14, E_J0_indexOf_7cf53_17, E_J0_indexOf_7cf53_20, E_J0_indexOf_7cf53_23, E_J0_indexOf_7cf53_24, E_J0_indexOf_7cf53_27, E_J0_indexOf_7cf53_28, E_J0_indexOf_7cf53_29, E_J0_indexOf_7cf53_30, E_J0_indexOf_7cf53_36, E_J1_indexOf_4cfef_0, E_J1_indexOf_4cfef_1, E_J1_indexOf_4cfef_4, E_J1_indexOf_4cfef_7, E_J1_indexOf_4cfef_8, E_J1_indexOf_4cfef_9, E_J1_indexOf_4cfef_10, E_J1_indexOf_4cfef_11, E_J1_indexOf_4cfef_14, E_J1_indexOf_4cfef_15, E_J1_indexOf_4cfef_16, E_J1_indexOf_4cfef_17, E_J1_indexOf_4cfef_18, E_J1_indexOf_4cfef_21, E_J1_indexOf_4cfef_22, E_J1_indexOf_4cfef_23, E_J1_indexOf_4cfef_24, E_J1_indexOf_4cfef_27, E_J1_indexOf_4cfef_28, E_J1_indexOf_4cfef_29, E_J1_indexOf_4cfef_30, E_J1_indexOf_4cfef_31, E_J1_indexOf_4cfef_32, E_J1_indexOf_4cfef_33, E_J1_indexOf_4cfef_36, E_J1_canEncode_9a6ad_0, E_J1_canEncode_9a6ad_1, E_J1_canEncode_9a6ad_4, E_J1_canEncode_9a6ad_5, E_J1_canEncode_9a6ad_8, E_J1_canEncode_9a6ad_11, E_J1_canEncode_9a6ad_12, E_J1_canEncode_9a6ad_15, E_J1_canEncode_9a6ad_16, E_J1_indexOfChar_4cfef_0, E_J1_indexOfChar_4cfef_1, E_J1_indexOfChar_4cfef_2, E_J1_indexOfChar_4cfef_4, E_J1_indexOfChar_4cfef_5, hl, j_len hr hj, j_isL hr hj, a1, a2, a3, a4, a5, and_self, nI_o, e1, e2, t1, t2, t3, t4, gi_00, g1_0, gb_n1, List.map_nil, List.map_cons, List.sum_cons, List.sum_nil, gcat_i, gcat_r, gcat_l, Nat.reduceAdd, Nat.reduceLeDiff, Nat.zero_le, Option.toList, List.cons_append, List.nil_append, gnk_i, gnk_r, gnk_n, gi_1, Nat.reduceLT, if_true, if_false]
end
section
variable {w : Nat × (Nat → Int32)} {d f n a c : Nat} {b : Nat → Nat} {s : gm_S} {ts : List fT} {Q : Option Value → gc_M → Prop}
theorem c_plL (h : cB f n b s) (ha : s.1 f 8 = nI a) (hn : a ≤ n) : gc_X w (d + 4) 19 0 [some (.ref f), some (.ref 1000004)] [] (gm_m s) Q = Q (some (.int (if xl (xt n b a) < 6 then nI (xl (xt n b a)) else -1))) (gm_m s) := by
  have hf := h.1
  by_cases h1 : a < n
  · have hb := h.2.2.2.2.1 a h1
    have e1 : xn n b a = nI (b a) := if_pos h1
    have e2 : xt n b a = b a := if_pos h1
    have e3 : 0 ≤ nI (b a) := nI_pos' (by omega)
    have e4 := fun (M : gc_M) (Q : Option Value → gc_M → Prop) => j_idx (w := w) (d := d) (M := M) (Q := Q) (r := 1000004) (j := 4) rfl (by decide) hb
    simp only [tx_xl _ hb] at e4
    simp only [E_X1_placeIn_0, E_X1_placeIn_1, E_X1_placeIn_4, E_X1_placeIn_7, E_X1_placeIn_8, E_X1_placeIn_11, E_X1_placeIn_12, E_X1_placeIn_13, E_X1_placeIn_16, E_X1_placeIn_17, E_X1_placeIn_20, c_next h ha hn, gF_cl hf, e1, e2, e3, (tx_by _ hb).1, e4, Nat.reduceLeDiff, List.map_nil, List.map_cons, List.sum_cons, List.sum_nil, gcat_i, gcat_r, gcat_l, Nat.reduceAdd, Nat.reduceLeDiff, Nat.zero_le, Option.toList, List.cons_append, List.nil_append, gnk_i, gnk_r, gnk_n, gi_1, Nat.reduceLT, if_true, if_false]
  · have e1 : xn n b a = -1 := if_neg h1
    have e2 : xt n b a = 0 := if_neg h1
    rw [e2]
    simp (decide := true) only [E_X1_placeIn_0, E_X1_placeIn_1, E_X1_placeIn_4, E_X1_placeIn_7, E_X1_placeIn_8, E_X1_placeIn_11, E_X1_placeIn_12, E_X1_placeIn_13, E_X1_placeIn_16, E_X1_placeIn_17, E_X1_placeIn_20, c_next h ha hn, gF_cl hf, e1, List.map_nil, List.map_cons, List.sum_cons, List.sum_nil, gcat_i, gcat_r, gcat_l, Nat.reduceAdd, Nat.reduceLeDiff, Nat.zero_le, Option.toList, List.cons_append, List.nil_append, gnk_i, gnk_r, gnk_n, gi_1, Nat.reduceLT, if_true, if_false]
theorem c_plH (h : cB f n b s) (ha : s.1 f 8 = nI a) (hn : a ≤ n) : gc_X w (d + 4) 19 0 [some (.ref f), some (.ref 1000005)] [] (gm_m s) Q = Q (some (.int (if xh (xt n b a) < 3 then nI (xh (xt n b a)) else -1))) (gm_m s) := by
  have hf := h.1
  by_cases h1 : a < n
  · have hb := h.2.2.2.2.1 a h1
    have e1 : xn n b a = nI (b a) := if_pos h1
    have e2 : xt n b a = b a := if_pos h1
    have e3 : 0 ≤ nI (b a) := nI_pos' (by omega)
    have e4 := fun (M : gc_M) (Q : Option Value → gc_M → Prop) => j_idx (w := w) (d := d) (M := M) (Q := Q) (r := 1000005) (j := 5) rfl (by decide) hb
    simp only [tx_xh _ hb] at e4
    simp only [E_X1_placeIn_0, E_X1_placeIn_1, E_X1_placeIn_4, E_X1_placeIn_7, E_X1_placeIn_8, E_X1_placeIn_11, E_X1_placeIn_12, E_X1_placeIn_13, E_X1_placeIn_16, E_X1_placeIn_17, E_X1_placeIn_20, c_next h ha hn, gF_cl hf, e1, e2, e3, (tx_by _ hb).1, e4, Nat.reduceLeDiff, List.map_nil, List.map_cons, List.sum_cons, List.sum_nil, gcat_i, gcat_r, gcat_l, Nat.reduceAdd, Nat.reduceLeDiff, Nat.zero_le, Option.toList, List.cons_append, List.nil_append, gnk_i, gnk_r, gnk_n, gi_1, Nat.reduceLT, if_true, if_false]
  · have e1 : xn n b a = -1 := if_neg h1
    have e2 : xt n b a = 0 := if_neg h1
    rw [e2]
    simp (decide := true) only [E_X1_placeIn_0, E_X1_placeIn_1, E_X1_placeIn_4, E_X1_placeIn_7, E_X1_placeIn_8, E_X1_placeIn_11, E_X1_placeIn_12, E_X1_placeIn_13, E_X1_placeIn_16, E_X1_placeIn_17, E_X1_placeIn_20, c_next h ha hn, gF_cl hf, e1, List.map_nil, List.map_cons, List.sum_cons, List.sum_nil, gcat_i, gcat_r, gcat_l, Nat.reduceAdd, Nat.reduceLeDiff, Nat.zero_le, Option.toList, List.cons_append, List.nil_append, gnk_i, gnk_r, gnk_n, gi_1, Nat.reduceLT, if_true, if_false]
/-- a word, a blank, a number -/
def pM (t : Nat → Nat) (ws : List Nat) (a : Nat) : Bool × Nat × Nat := match pW t ws a with
  | (false, a1) => (false, a1, 0)
  | (true, a1) => if t a1 = 32 then (match pN t (a1 + 1) with
    | none => (false, a1 + 1, 0)
    | some (a2, v) => (true, a2, v)) else (false, a1, 0)
theorem c_am_loop {r j : Nat} (hr : r = 1000000 + j) (hj : j < 4) : ∀ (m i a : Nat) (s : gm_S) (ok : Bool) (a' : Nat), i + m = (wd j).length → cB f n b s → cA f n s a ts → pW (xt n b) ((wd j).drop i) a = (ok, a') → (ok = false → ∀ s', cF f s s' → s'.1 f 8 = nI a' → Q (some (.int 0)) (gm_m s')) → (ok = true → ∀ s', cF f s s' → cA f n s' a' ts → gc_X w (d + 4) 12 30 [some (.ref f), some (.ref r), some (.int (nI (wd j).length))] [] (gm_m s') Q) → gc_X w (d + 4) 12 2 [some (.ref f), some (.ref r), some (.int (nI i))] [] (gm_m s) Q := by
  obtain ⟨t1, t2, t3⟩ := tx_wd j hj
  have a1 : 1000000 ≤ r := by omega
  have a2 : r < 1000006 := by omega
  intro m
  induction m with
  | zero =>
    intro i a s ok a' hi hB hA hp h0 h1
    have e : i = (wd j).length := by omega
    rw [e, List.drop_length] at hp
    cases hp
    have e1 : nI (wd j).length ≤ nI i := nI_le (by omega) (by omega)
    rw [E_X1_amount_2]
    simp only [E_X1_amount_0, E_X1_amount_1, E_X1_amount_3, E_X1_amount_4, E_X1_amount_7, E_X1_amount_10, E_X1_amount_11, E_X1_amount_12, E_X1_amount_13, E_X1_amount_16, E_X1_amount_19, E_X1_amount_22, E_X1_amount_23, E_X1_amount_24, E_X1_amount_27, E_X1_amount_31, E_X1_amount_33, E_X1_amount_36, E_X1_amount_39, E_X1_amount_40, E_X1_amount_43, E_X1_amount_46, E_X1_amount_47, E_X1_amount_50, E_X1_amount_51, j_len hr (by omega : j < 6), t1, a1, a2, e1, List.map_nil, List.map_cons, List.sum_cons, List.sum_nil, gcat_i, gcat_r, gcat_l, Nat.reduceAdd, Nat.reduceLeDiff, Nat.zero_le, Option.toList, List.cons_append, List.nil_append, gnk_i, gnk_r, gnk_n, gi_1, Nat.reduceLT, if_true, if_false]
    rw [e]
    exact h1 rfl s cF_refl hA
  | succ m ih =>
    intro i a s ok a' hi hB hA hp h0 h1
    have hf := hB.1
    have hil : i < (wd j).length := by omega
    rw [drop_getD hil] at hp
    obtain ⟨u1, u2, u3⟩ := t3 i (by omega)
    have u3 := u3 hil
    have e1 : ¬ nI (wd j).length ≤ nI i := nI_ge (by omega) (by omega)
    have hc := fun (M : gc_M) (Q : Option Value → gc_M → Prop) => j_charAt (w := w) (d := d) (M := M) (Q := Q) hr (by omega : j < 6) (by omega : i < (gc_txb j).length)
    rw [u1] at hc
    rw [E_X1_amount_2]
    unfold pW at hp
    by_cases hx : xt n b a = (wd j).getD i 0
    · rw [if_pos hx] at hp
      have ha : a < n := xt_lt (b := b) (by omega)
      have hA1 : cA f n (gm_si s f 8 (nI (a + 1))) (a + 1) ts := cA_8 hA (by omega) (by omega)
      have hF1 : cF f s (gm_si s f 8 (nI (a + 1))) := cF_si (by decide)
      simp only [E_X1_amount_0, E_X1_amount_1, E_X1_amount_3, E_X1_amount_4, E_X1_amount_7, E_X1_amount_10, E_X1_amount_11, E_X1_amount_12, E_X1_amount_13, E_X1_amount_16, E_X1_amount_19, E_X1_amount_22, E_X1_amount_23, E_X1_amount_24, E_X1_amount_27, E_X1_amount_31, E_X1_amount_33, E_X1_amount_36, E_X1_amount_39, E_X1_amount_40, E_X1_amount_43, E_X1_amount_46, E_X1_amount_47, E_X1_amount_50, E_X1_amount_51, j_len hr (by omega : j < 6), hc, c_sign hB hA.1 hA.2.1 u3 u2, hx, gF_cl hf, t1, a1, a2, e1, g1_0, gi_1, nI_1, List.map_nil, List.map_cons, List.sum_cons, List.sum_nil, gcat_i, gcat_r, gcat_l, Nat.reduceAdd, Nat.reduceLeDiff, Nat.zero_le, Option.toList, List.cons_append, List.nil_append, gnk_i, gnk_r, gnk_n, gi_1, Nat.reduceLT, if_true, if_false]
      exact ih (i + 1) (a + 1) _ ok a' (by omega) (cB_F hB hF1) hA1 hp (fun q s' hF => h0 q s' (cF_trans hF1 hF)) (fun q s' hF => h1 q s' (cF_trans hF1 hF))
    · rw [if_neg hx] at hp
      cases hp
      simp only [E_X1_amount_0, E_X1_amount_1, E_X1_amount_3, E_X1_amount_4, E_X1_amount_7, E_X1_amount_10, E_X1_amount_11, E_X1_amount_12, E_X1_amount_13, E_X1_amount_16, E_X1_amount_19, E_X1_amount_22, E_X1_amount_23, E_X1_amount_24, E_X1_amount_27, E_X1_amount_31, E_X1_amount_33, E_X1_amount_36, E_X1_amount_39, E_X1_amount_40, E_X1_amount_43, E_X1_amount_46, E_X1_amount_47, E_X1_amount_50, E_X1_amount_51, j_len hr (by omega : j < 6), hc, c_sign hB hA.1 hA.2.1 u3 u2, hx, gF_cl hf, t1, a1, a2, e1, gb_n0, List.map_nil, List.map_cons, List.sum_cons, List.sum_nil, gcat_i, gcat_r, gcat_l, Nat.reduceAdd, Nat.reduceLeDiff, Nat.zero_le, Option.toList, List.cons_append, List.nil_append, gnk_i, gnk_r, gnk_n, gi_1, Nat.reduceLT, if_true, if_false]
      exact h0 rfl s cF_refl hA.1
theorem c_amount {r j : Nat} (hr : r = 1000000 + j) (hj : j < 4) {ok : Bool} {a' v : Nat} (hB : cB f n b s) (hA : cA f n s a ts) (hp : pM (xt n b) (wd j) a = (ok, a', v)) (h0 : ok = false → ∀ s', cF f s s' → s'.1 f 8 = nI a' → Q (some (.int 0)) (gm_m s')) (h1 : ok = true → ∀ s', cF f s s' → cA f n s' a' ts → s'.1 f 9 = nI v → Q (some (.int 1)) (gm_m s')) : gc_X w (d + 4) 12 0 [some (.ref f), some (.ref r), none] [] (gm_m s) Q := by
  have hf := hB.1
  simp only [E_X1_amount_0, E_X1_amount_1, gnk_i, gnk_r, gnk_n, gi_1, Nat.reduceLT, if_true, if_false]
  unfold pM at hp
  have hl := c_am_loop (w := w) (d := d) (f := f) (n := n) (b := b) (ts := ts) (Q := Q) hr hj (wd j).length 0 a s
  rw [nI_0] at hl
  split at hp
  · rename_i a1 hw
    cases hp
    exact hl false _ (by omega) hB hA hw (fun q => h0 rfl) (fun q => by cases q)
  · rename_i a1 hw
    refine hl true a1 (by omega) hB hA hw (fun q => by cases q) (fun _ s1 hF1 hA1 => ?_)
    have hB1 := cB_F hB hF1
    have hs := fun (Q : Option Value → gc_M → Prop) => c_sign (w := w) (d := d + 2) (c := 32) (Q := Q) hB1 hA1.1 hA1.2.1 (by decide) (by decide)
    by_cases h32 : xt n b a1 = 32
    · rw [if_pos h32] at hp
      simp only [h32, if_true] at hs
      have hs : ∀ Q, gc_X w (d + 3) 20 0 [some (.ref f), some (.int 32)] [] (gm_m s1) Q = Q (some (.int 1)) (gm_m (gm_si s1 f 8 (nI (a1 + 1)))) := hs
      have ha : a1 < n := xt_lt (b := b) (by omega)
      have hA2 : cA f n (gm_si s1 f 8 (nI (a1 + 1))) (a1 + 1) ts := cA_8 hA1 (by omega) (by omega)
      have hF2 : cF f s1 (gm_si s1 f 8 (nI (a1 + 1))) := cF_si (by decide)
      have hB2 := cB_F hB1 hF2
      split at hp
      · rename_i hn
        cases hp
        have hnum := fun (Q : Option Value → gc_M → Prop) => c_num_no (w := w) (d := d + 2) (Q := Q) hB2 hA2.1 hA2.2.1 hn
        simp only [E_X1_amount_0, E_X1_amount_1, E_X1_amount_3, E_X1_amount_4, E_X1_amount_7, E_X1_amount_10, E_X1_amount_11, E_X1_amount_12, E_X1_amount_13, E_X1_amount_16, E_X1_amount_19, E_X1_amount_22, E_X1_amount_23, E_X1_amount_24, E_X1_amount_27, E_X1_amount_30, E_X1_amount_31, E_X1_amount_33, E_X1_amount_36, E_X1_amount_39, E_X1_amount_40, E_X1_amount_43, E_X1_amount_46, E_X1_amount_47, E_X1_amount_50, E_X1_amount_51, hs, hnum, gF_cl hf, g1_0, gb_n0, List.map_nil, List.map_cons, List.sum_cons, List.sum_nil, gcat_i, gcat_r, gcat_l, Nat.reduceAdd, Nat.reduceLeDiff, Nat.zero_le, Option.toList, List.cons_append, List.nil_append, gnk_i, gnk_r, gnk_n, gi_1, Nat.reduceLT, if_true, if_false]
        exact h0 rfl _ (cF_trans hF1 hF2) hA2.1
      · rename_i a2 v' hn
        cases hp
        simp only [E_X1_amount_0, E_X1_amount_1, E_X1_amount_3, E_X1_amount_4, E_X1_amount_7, E_X1_amount_10, E_X1_amount_11, E_X1_amount_12, E_X1_amount_13, E_X1_amount_16, E_X1_amount_19, E_X1_amount_22, E_X1_amount_23, E_X1_amount_24, E_X1_amount_27, E_X1_amount_30, E_X1_amount_31, E_X1_amount_33, E_X1_amount_36, E_X1_amount_39, E_X1_amount_40, E_X1_amount_43, E_X1_amount_46, E_X1_amount_47, E_X1_amount_50, E_X1_amount_51, hs, gF_cl hf, g1_0, List.map_nil, List.map_cons, List.sum_cons, List.sum_nil, gcat_i, gcat_r, gcat_l, Nat.reduceAdd, Nat.reduceLeDiff, Nat.zero_le, Option.toList, List.cons_append, List.nil_append, gnk_i, gnk_r, gnk_n, gi_1, Nat.reduceLT, if_true, if_false]
        refine c_num_ok (d := d + 2) hB2 hA2 hn (fun s3 hF3 hA3 h93 => ?_)
        simp only [E_X1_amount_0, E_X1_amount_1, E_X1_amount_3, E_X1_amount_4, E_X1_amount_7, E_X1_amount_10, E_X1_amount_11, E_X1_amount_12, E_X1_amount_13, E_X1_amount_16, E_X1_amount_19, E_X1_amount_22, E_X1_amount_23, E_X1_amount_24, E_X1_amount_27, E_X1_amount_30, E_X1_amount_31, E_X1_amount_33, E_X1_amount_36, E_X1_amount_39, E_X1_amount_40, E_X1_amount_43, E_X1_amount_46, E_X1_amount_47, E_X1_amount_50, E_X1_amount_51, g1_0, gb_n1, List.map_nil, List.map_cons, List.sum_cons, List.sum_nil, gcat_i, gcat_r, gcat_l, Nat.reduceAdd, Nat.reduceLeDiff, Nat.zero_le, Option.toList, List.cons_append, List.nil_append, gnk_i, gnk_r, gnk_n, gi_1, Nat.reduceLT, if_true, if_false]
        exact h1 rfl s3 (cF_trans hF1 (cF_trans hF2 hF3)) hA3 h93
    · rw [if_neg h32] at hp
      cases hp
      simp only [h32, if_false] at hs
      have hs : ∀ Q, gc_X w (d + 3) 20 0 [some (.ref f), some (.int 32)] [] (gm_m s1) Q = Q (some (.int 0)) (gm_m s1) := hs
      simp only [E_X1_amount_0, E_X1_amount_1, E_X1_amount_3, E_X1_amount_4, E_X1_amount_7, E_X1_amount_10, E_X1_amount_11, E_X1_amount_12, E_X1_amount_13, E_X1_amount_16, E_X1_amount_19, E_X1_amount_22, E_X1_amount_23, E_X1_amount_24, E_X1_amount_27, E_X1_amount_30, E_X1_amount_31, E_X1_amount_33, E_X1_amount_36, E_X1_amount_39, E_X1_amount_40, E_X1_amount_43, E_X1_amount_46, E_X1_amount_47, E_X1_amount_50, E_X1_amount_51, hs, gF_cl hf, gb_n0, List.map_nil, List.map_cons, List.sum_cons, List.sum_nil, gcat_i, gcat_r, gcat_l, Nat.reduceAdd, Nat.reduceLeDiff, Nat.zero_le, Option.toList, List.cons_append, List.nil_append, gnk_i, gnk_r, gnk_n, gi_1, Nat.reduceLT, if_true, if_false]
      exact h0 rfl s1 hF1 hA1.1
/-! what reads a part: with steps u, up to a'; or with the fault at a' -/
def cOk (w : Nat × (Nat → Int32)) (f n : Nat) (b : Nat → Nat) (mid pc dm : Nat) (L : gc_L) (a a' : Nat) (u : List fT) : Prop := ∀ (d : Nat) (s : gm_S) (ts : List fT) (Q : Option Value → gc_M → Prop), dm ≤ d → cB f n b s → cA f n s a ts → (∀ s', cF f s s' → cA f n s' a' (ts ++ u) → Q (some (.int 1)) (gm_m s')) → gc_X w d mid pc L [] (gm_m s) Q
def cNo (w : Nat × (Nat → Int32)) (f n : Nat) (b : Nat → Nat) (mid pc dm : Nat) (L : gc_L) (a a' : Nat) : Prop := ∀ (d : Nat) (s : gm_S) (ts : List fT) (Q : Option Value → gc_M → Prop), dm ≤ d → cB f n b s → cA f n s a ts → (∀ s', cF f s s' → s'.1 f 8 = nI a' → Q (some (.int 0)) (gm_m s')) → gc_X w d mid pc L [] (gm_m s) Q
theorem xl_pos {x : Nat} (h : xl x < 6) : 0 < x := by
  rcases Nat.eq_zero_or_pos x with e | e
  · subst e
    exact absurd h (by decide)
  · exact e
theorem xh_pos {x : Nat} (h : xh x < 3) : 0 < x := by
  rcases Nat.eq_zero_or_pos x with e | e
  · subst e
    exact absurd h (by decide)
  · exact e
theorem gz_m1 : ((0 : Int32) ≤ -1) = False := eq_false (by decide)
theorem c_test_no1 (h : ¬ xl (xt n b a) < 6) : cNo w f n b 16 0 5 [some (.ref f), none, none] a a := by
  intro d s ts Q hd hB hA hQ
  obtain ⟨d, rfl⟩ : ∃ e, d = e + 5 := ⟨d - 5, by omega⟩
  have hf := hB.1
  simp only [E_X1_test_0, E_X1_test_1, E_X1_test_3, E_X1_test_6, E_X1_test_7, E_X1_test_8, E_X1_test_11, E_X1_test_12, E_X1_test_13, E_X1_test_14, E_X1_test_15, E_X1_test_18, E_X1_test_19, E_X1_test_20, E_X1_test_23, E_X1_test_24, E_X1_test_26, E_X1_test_29, E_X1_test_30, E_X1_test_31, E_X1_test_34, E_X1_test_35, E_X1_test_36, E_X1_test_37, E_X1_test_38, E_X1_test_41, E_X1_test_42, E_X1_test_43, E_X1_test_46, E_X1_test_47, E_X1_test_50, E_X1_test_53, E_X1_test_54, E_X1_test_55, E_X1_test_56, E_X1_test_57, E_X1_test_58, E_X1_test_59, E_X1_test_62, E_X1_test_65, E_X1_test_66, c_plL hB hA.1 hA.2.1, h, gz_m1, gF_cl hf, gb_n0, List.map_nil, List.map_cons, List.sum_cons, List.sum_nil, gcat_i, gcat_r, gcat_l, Nat.reduceAdd, Nat.reduceLeDiff, Nat.zero_le, Option.toList, List.cons_append, List.nil_append, gnk_i, gnk_r, gnk_n, gi_1, Nat.reduceLT, if_true, if_false]
  exact hQ s cF_refl hA.1
theorem c_test_no2 (h : xl (xt n b a) < 6) (h2 : ¬ xh (xt n b (a + 1)) < 3) : cNo w f n b 16 0 5 [some (.ref f), none, none] a (a + 1) := by
  intro d s ts Q hd hB hA hQ
  obtain ⟨d, rfl⟩ : ∃ e, d = e + 5 := ⟨d - 5, by omega⟩
  have hf := hB.1
  have ha : a < n := xt_lt (xl_pos h)
  have hA1 : cA f n (gm_si s f 8 (nI (a + 1))) (a + 1) ts := cA_8 hA (by omega) (by omega)
  have hF1 : cF f s (gm_si s f 8 (nI (a + 1))) := cF_si (by decide)
  have hB1 := cB_F hB hF1
  have e1 : 0 ≤ nI (xl (xt n b a)) := nI_pos' (by omega)
  simp only [E_X1_test_0, E_X1_test_1, E_X1_test_3, E_X1_test_6, E_X1_test_7, E_X1_test_8, E_X1_test_11, E_X1_test_12, E_X1_test_13, E_X1_test_14, E_X1_test_15, E_X1_test_18, E_X1_test_19, E_X1_test_20, E_X1_test_23, E_X1_test_24, E_X1_test_26, E_X1_test_29, E_X1_test_30, E_X1_test_31, E_X1_test_34, E_X1_test_35, E_X1_test_36, E_X1_test_37, E_X1_test_38, E_X1_test_41, E_X1_test_42, E_X1_test_43, E_X1_test_46, E_X1_test_47, E_X1_test_50, E_X1_test_53, E_X1_test_54, E_X1_test_55, E_X1_test_56, E_X1_test_57, E_X1_test_58, E_X1_test_59, E_X1_test_62, E_X1_test_65, E_X1_test_66, c_plL hB hA.1 hA.2.1, c_plH hB1 hA1.1 hA1.2.1, h, h2, e1, gz_m1, gF_cl hf, gF_gok hf, Fg_8 hf, Fp_8 hf, hA.1, nI_1, gb_n0, List.map_nil, List.map_cons, List.sum_cons, List.sum_nil, gcat_i, gcat_r, gcat_l, Nat.reduceAdd, Nat.reduceLeDiff, Nat.zero_le, Option.toList, List.cons_append, List.nil_append, gnk_i, gnk_r, gnk_n, gi_1, Nat.reduceLT, if_true, if_false]
  exact hQ _ hF1 hA1.1
theorem c_test_no3 (h : xl (xt n b a) < 6) (h2 : xh (xt n b (a + 1)) < 3) (h3 : pN (xt n b) (a + 2) = none) : cNo w f n b 16 0 5 [some (.ref f), none, none] a (a + 2) := by
  intro d s ts Q hd hB hA hQ
  obtain ⟨d, rfl⟩ : ∃ e, d = e + 5 := ⟨d - 5, by omega⟩
  have hf := hB.1
  have ha : a + 1 < n := xt_lt (xh_pos h2)
  have hA1 : cA f n (gm_si s f 8 (nI (a + 1))) (a + 1) ts := cA_8 hA (by omega) (by omega)
  have hF1 : cF f s (gm_si s f 8 (nI (a + 1))) := cF_si (by decide)
  have hB1 := cB_F hB hF1
  have hA2 : cA f n (gm_si (gm_si s f 8 (nI (a + 1))) f 8 (nI (a + 2))) (a + 2) ts := cA_8 hA1 (by omega) (by omega)
  have hF2 : cF f s (gm_si (gm_si s f 8 (nI (a + 1))) f 8 (nI (a + 2))) := cF_trans hF1 (cF_si (by decide))
  have hB2 := cB_F hB hF2
  have e1 : 0 ≤ nI (xl (xt n b a)) := nI_pos' (by omega)
  have e2 : 0 ≤ nI (xh (xt n b (a + 1))) := nI_pos' (by omega)
  have hnum := fun (Q : Option Value → gc_M → Prop) => c_num_no (w := w) (d := d + 3) (Q := Q) hB2 hA2.1 hA2.2.1 h3
  simp only [E_X1_test_0, E_X1_test_1, E_X1_test_3, E_X1_test_6, E_X1_test_7, E_X1_test_8, E_X1_test_11, E_X1_test_12, E_X1_test_13, E_X1_test_14, E_X1_test_15, E_X1_test_18, E_X1_test_19, E_X1_test_20, E_X1_test_23, E_X1_test_24, E_X1_test_26, E_X1_test_29, E_X1_test_30, E_X1_test_31, E_X1_test_34, E_X1_test_35, E_X1_test_36, E_X1_test_37, E_X1_test_38, E_X1_test_41, E_X1_test_42, E_X1_test_43, E_X1_test_46, E_X1_test_47, E_X1_test_50, E_X1_test_53, E_X1_test_54, E_X1_test_55, E_X1_test_56, E_X1_test_57, E_X1_test_58, E_X1_test_59, E_X1_test_62, E_X1_test_65, E_X1_test_66, c_plL hB hA.1 hA.2.1, c_plH hB1 hA1.1 hA1.2.1, h, h2, e1, e2, hnum, gF_cl hf, gF_gok hf, Fg_8 hf, Fp_8 hf, hA.1, hA1.1, nI_1, Nat.add_assoc, Nat.reduceAdd, gb_n0, List.map_nil, List.map_cons, List.sum_cons, List.sum_nil, gcat_i, gcat_r, gcat_l, Nat.reduceAdd, Nat.reduceLeDiff, Nat.zero_le, Option.toList, List.cons_append, List.nil_append, gnk_i, gnk_r, gnk_n, gi_1, Nat.reduceLT, if_true, if_false]
  exact hQ _ hF2 hA2.1
theorem c_test_ok {a' v : Nat} (h : xl (xt n b a) < 6) (h2 : xh (xt n b (a + 1)) < 3) (h3 : pN (xt n b) (a + 2) = some (a', v)) : cOk w f n b 16 0 5 [some (.ref f), none, none] a a' [(xh (xt n b (a + 1)), xl (xt n b a), v)] := by
  intro d s ts Q hd hB hA hQ
  obtain ⟨d, rfl⟩ : ∃ e, d = e + 5 := ⟨d - 5, by omega⟩
  have hf := hB.1
  have h100 := hB.2.1
  have hlt := pN_lt h3
  have ha : a + 1 < n := xt_lt (xh_pos h2)
  have hA1 : cA f n (gm_si s f 8 (nI (a + 1))) (a + 1) ts := cA_8 hA (by omega) (by omega)
  have hF1 : cF f s (gm_si s f 8 (nI (a + 1))) := cF_si (by decide)
  have hB1 := cB_F hB hF1
  have hA2 : cA f n (gm_si (gm_si s f 8 (nI (a + 1))) f 8 (nI (a + 2))) (a + 2) ts := cA_8 hA1 (by omega) (by omega)
  have hF2 : cF f s (gm_si (gm_si s f 8 (nI (a + 1))) f 8 (nI (a + 2))) := cF_trans hF1 (cF_si (by decide))
  have hB2 := cB_F hB hF2
  have e1 : 0 ≤ nI (xl (xt n b a)) := nI_pos' (by omega)
  have e2 : 0 ≤ nI (xh (xt n b (a + 1))) := nI_pos' (by omega)
  simp only [E_X1_test_0, E_X1_test_1, E_X1_test_3, E_X1_test_6, E_X1_test_7, E_X1_test_8, E_X1_test_11, E_X1_test_12, E_X1_test_13, E_X1_test_14, E_X1_test_15, E_X1_test_18, E_X1_test_19, E_X1_test_20, E_X1_test_23, E_X1_test_24, E_X1_test_26, E_X1_test_29, E_X1_test_30, E_X1_test_31, E_X1_test_34, E_X1_test_35, E_X1_test_36, E_X1_test_37, E_X1_test_38, E_X1_test_41, E_X1_test_42, E_X1_test_43, E_X1_test_46, E_X1_test_47, E_X1_test_50, E_X1_test_53, E_X1_test_54, E_X1_test_55, E_X1_test_56, E_X1_test_57, E_X1_test_58, E_X1_test_59, E_X1_test_62, E_X1_test_65, E_X1_test_66, c_plL hB hA.1 hA.2.1, c_plH hB1 hA1.1 hA1.2.1, h, h2, e1, e2, gF_cl hf, gF_gok hf, Fg_8 hf, Fp_8 hf, hA.1, hA1.1, nI_1, Nat.add_assoc, Nat.reduceAdd, List.map_nil, List.map_cons, List.sum_cons, List.sum_nil, gcat_i, gcat_r, gcat_l, Nat.reduceAdd, Nat.reduceLeDiff, Nat.zero_le, Option.toList, List.cons_append, List.nil_append, gnk_i, gnk_r, gnk_n, gi_1, Nat.reduceLT, if_true, if_false]
  refine c_num_ok (d := d + 3) hB2 hA2 h3 (fun s3 hF3 hA3 h93 => ?_)
  simp only [E_X1_test_0, E_X1_test_1, E_X1_test_3, E_X1_test_6, E_X1_test_7, E_X1_test_8, E_X1_test_11, E_X1_test_12, E_X1_test_13, E_X1_test_14, E_X1_test_15, E_X1_test_18, E_X1_test_19, E_X1_test_20, E_X1_test_23, E_X1_test_24, E_X1_test_26, E_X1_test_29, E_X1_test_30, E_X1_test_31, E_X1_test_34, E_X1_test_35, E_X1_test_36, E_X1_test_37, E_X1_test_38, E_X1_test_41, E_X1_test_42, E_X1_test_43, E_X1_test_46, E_X1_test_47, E_X1_test_50, E_X1_test_53, E_X1_test_54, E_X1_test_55, E_X1_test_56, E_X1_test_57, E_X1_test_58, E_X1_test_59, E_X1_test_62, E_X1_test_65, E_X1_test_66, g1_0, gF_cl hf, gF_gok hf, Fg_9 hf, h93, List.map_nil, List.map_cons, List.sum_cons, List.sum_nil, gcat_i, gcat_r, gcat_l, Nat.reduceAdd, Nat.reduceLeDiff, Nat.zero_le, Option.toList, List.cons_append, List.nil_append, gnk_i, gnk_r, gnk_n, gi_1, Nat.reduceLT, if_true, if_false]
  refine c_add hf hA3.2.2.2 (by have := hA.2.2.1; omega) (xh (xt n b (a + 1)), xl (xt n b a), v) rfl rfl rfl (fun s4 hF4 h8 hK => ?_)
  simp only [E_X1_test_0, E_X1_test_1, E_X1_test_3, E_X1_test_6, E_X1_test_7, E_X1_test_8, E_X1_test_11, E_X1_test_12, E_X1_test_13, E_X1_test_14, E_X1_test_15, E_X1_test_18, E_X1_test_19, E_X1_test_20, E_X1_test_23, E_X1_test_24, E_X1_test_26, E_X1_test_29, E_X1_test_30, E_X1_test_31, E_X1_test_34, E_X1_test_35, E_X1_test_36, E_X1_test_37, E_X1_test_38, E_X1_test_41, E_X1_test_42, E_X1_test_43, E_X1_test_46, E_X1_test_47, E_X1_test_50, E_X1_test_53, E_X1_test_54, E_X1_test_55, E_X1_test_56, E_X1_test_57, E_X1_test_58, E_X1_test_59, E_X1_test_62, E_X1_test_65, E_X1_test_66, gb_n1, List.map_nil, List.map_cons, List.sum_cons, List.sum_nil, gcat_i, gcat_r, gcat_l, Nat.reduceAdd, Nat.reduceLeDiff, Nat.zero_le, Option.toList, List.cons_append, List.nil_append, gnk_i, gnk_r, gnk_n, gi_1, Nat.reduceLT, if_true, if_false]
  refine hQ s4 (cF_trans hF2 (cF_trans hF3 hF4)) ⟨h8.trans hA3.1, hA3.2.1, ?_, hK⟩
  have := hA.2.2.1
  rw [List.length_append]
  show ts.length + 1 ≤ a'
  omega
end
