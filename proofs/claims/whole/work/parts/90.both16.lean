/-! both sides: image, undo, ended -/
theorem gZ_im : gZ 119 83 := ⟨gy_119, gy_83, by decide⟩
theorem gZ_un : gZ 83 119 := ⟨gy_83, gy_119, by decide⟩
def cImP (s s' : gm_S) (f m : Nat) (p : gA) (l1 : List gTr) (l2 l3 : List (Nat × Nat)) : Prop := s'.2.2 = s.2.2 ∧ (∀ b k, b ≠ 119 → s'.2.1 b k = s.2.1 b k) ∧ (∀ b j, ¬ ((119 ≤ b ∧ b ≤ 136) ∨ (5 ≤ b ∧ b ≤ 8) ∨ (13 ≤ b ∧ b ≤ 16) ∨ (21 ≤ b ∧ b ≤ 24) ∨ (b = 0 ∧ j = 9)) → s'.1 b j = s.1 b j) ∧ gR s' 119 f m p ∧ cSx 5 s' l1 ∧ cPx 13 s' l2 ∧ cBx 21 s' l3 ∧ s'.1 0 9 = 1
section
variable {w : Nat × (Nat → Int32)} {s : gm_S} {d f m : Nat} {p : gA} {l1 : List gTr} {l2 l3 : List (Nat × Nat)} {Q : Option Value → gc_M → Prop}
theorem cIm_c (hR : gR s 83 f m p) (hk : gA_ok p) (g1 : cSx 1 s l1) (g2 : cPx 9 s l2) (g3 : cBx 17 s l3) (hq : ∀ s', cImP s s' f m p l1 l2 l3 → Q (some (.int (nI p.1.2.1))) (gm_m s')) : gc_X w (d + 1) 88 0 [some (.ref 0)] [] (gm_m s) Q := by
  have hf := hR.2.1
  unfold gF_is at hf
  simp (decide := true) only [E_X11_image_0, E_X11_image_1, E_X11_image_4, E_X11_image_5, E_X11_image_8, E_X11_image_11, E_X11_image_12, E_X11_image_15, E_X11_image_16, E_X11_image_19, E_X11_image_22, E_X11_image_23, E_X11_image_26, E_X11_image_27, E_X11_image_30, E_X11_image_33, E_X11_image_34, E_X11_image_37, E_X11_image_38, E_X11_image_41, E_X11_image_44, E_X11_image_45, E_X11_image_46, E_X11_image_49, E_X11_image_50, E_X11_image_53, E_X11_image_56, rk_0, rg_0_2, rg_0_0, rg_0_9, rc_119, rc_83, List.map_nil, List.map_cons, List.sum_cons, List.sum_nil, gcat_i, gcat_r, gcat_l, Nat.reduceAdd, Nat.reduceLeDiff, Nat.zero_le, Option.toList, List.cons_append, List.nil_append, gnk_i, gnk_r, gnk_n, gi_1, Nat.reduceLT, if_true, if_false]
  refine gy_copy gZ_im hR hk (fun s1 D hC hR1 => ?_)
  simp only [E_X11_image_0, E_X11_image_1, E_X11_image_4, E_X11_image_5, E_X11_image_8, E_X11_image_11, E_X11_image_12, E_X11_image_15, E_X11_image_16, E_X11_image_19, E_X11_image_22, E_X11_image_23, E_X11_image_26, E_X11_image_27, E_X11_image_30, E_X11_image_33, E_X11_image_34, E_X11_image_37, E_X11_image_38, E_X11_image_41, E_X11_image_44, E_X11_image_45, E_X11_image_46, E_X11_image_49, E_X11_image_50, E_X11_image_53, E_X11_image_56, rk_0, rg_0_4, rg_0_3, rc_5, List.map_nil, List.map_cons, List.sum_cons, List.sum_nil, gcat_i, gcat_r, gcat_l, Nat.reduceAdd, Nat.reduceLeDiff, Nat.zero_le, Option.toList, List.cons_append, List.nil_append, gnk_i, gnk_r, gnk_n, gi_1, Nat.reduceLT, if_true, if_false]
  refine c_rows_1 g1.2.1 ((hC.2.2.1 _ _ (by omega)).trans g1.1) (fun s2 a2 n2 v2 b2 => ?_)
  simp only [E_X11_image_0, E_X11_image_1, E_X11_image_4, E_X11_image_5, E_X11_image_8, E_X11_image_11, E_X11_image_12, E_X11_image_15, E_X11_image_16, E_X11_image_19, E_X11_image_22, E_X11_image_23, E_X11_image_26, E_X11_image_27, E_X11_image_30, E_X11_image_33, E_X11_image_34, E_X11_image_37, E_X11_image_38, E_X11_image_41, E_X11_image_44, E_X11_image_45, E_X11_image_46, E_X11_image_49, E_X11_image_50, E_X11_image_53, E_X11_image_56, rk_0, rg_0_6, rg_0_5, rc_13, List.map_nil, List.map_cons, List.sum_cons, List.sum_nil, gcat_i, gcat_r, gcat_l, Nat.reduceAdd, Nat.reduceLeDiff, Nat.zero_le, Option.toList, List.cons_append, List.nil_append, gnk_i, gnk_r, gnk_n, gi_1, Nat.reduceLT, if_true, if_false]
  refine c_rows_9 g2.2.1 ((((b2 _ _ (by omega)).trans (hC.2.2.1 _ _ (by omega)))).trans g2.1) (fun s3 a3 n3 v3 b3 => ?_)
  simp only [E_X11_image_0, E_X11_image_1, E_X11_image_4, E_X11_image_5, E_X11_image_8, E_X11_image_11, E_X11_image_12, E_X11_image_15, E_X11_image_16, E_X11_image_19, E_X11_image_22, E_X11_image_23, E_X11_image_26, E_X11_image_27, E_X11_image_30, E_X11_image_33, E_X11_image_34, E_X11_image_37, E_X11_image_38, E_X11_image_41, E_X11_image_44, E_X11_image_45, E_X11_image_46, E_X11_image_49, E_X11_image_50, E_X11_image_53, E_X11_image_56, rk_0, rg_0_8, rg_0_7, rc_21, List.map_nil, List.map_cons, List.sum_cons, List.sum_nil, gcat_i, gcat_r, gcat_l, Nat.reduceAdd, Nat.reduceLeDiff, Nat.zero_le, Option.toList, List.cons_append, List.nil_append, gnk_i, gnk_r, gnk_n, gi_1, Nat.reduceLT, if_true, if_false]
  refine c_rows_17 g3.2.1 ((((b3 _ _ (by omega)).trans (((b2 _ _ (by omega)).trans (hC.2.2.1 _ _ (by omega)))))).trans g3.1) (fun s4 a4 n4 v4 b4 => ?_)
  have fr : ∀ b j, ¬ ((119 ≤ b ∧ b ≤ 136) ∨ (5 ≤ b ∧ b ≤ 8) ∨ (13 ≤ b ∧ b ≤ 16) ∨ (21 ≤ b ∧ b ≤ 24)) → s4.1 b j = s.1 b j := fun b j q => (b4 b j (by omega)).trans ((b3 b j (by omega)).trans ((b2 b j (by omega)).trans (hC.2.2.1 b j (by omega))))
  have hR4 : gR s4 119 f m p := gR_cg hR1 hk.1 (by rw [a4, a3, a2]) (fun b j q => (b4 b j (by omega)).trans ((b3 b j (by omega)).trans (b2 b j (by omega))))
  have e2 : s4.2 = s1.2 := by rw [a4, a3, a2]
  have e4 : (gm_si s4 0 9 1).1 83 4 = nI p.1.2.1 := by
    rw [gsi_1, if_neg (fun e => by omega), fr _ _ (by omega)]
    exact hR.2.2.2.2.2.1
  simp (decide := true) only [E_X11_image_0, E_X11_image_1, E_X11_image_4, E_X11_image_5, E_X11_image_8, E_X11_image_11, E_X11_image_12, E_X11_image_15, E_X11_image_16, E_X11_image_19, E_X11_image_22, E_X11_image_23, E_X11_image_26, E_X11_image_27, E_X11_image_30, E_X11_image_33, E_X11_image_34, E_X11_image_37, E_X11_image_38, E_X11_image_41, E_X11_image_44, E_X11_image_45, E_X11_image_46, E_X11_image_49, E_X11_image_50, E_X11_image_53, E_X11_image_56, rk_0, rk_83, rg_0_0, rg_83_4, rp_0_9, e4, List.map_nil, List.map_cons, List.sum_cons, List.sum_nil, gcat_i, gcat_r, gcat_l, Nat.reduceAdd, Nat.reduceLeDiff, Nat.zero_le, Option.toList, List.cons_append, List.nil_append, gnk_i, gnk_r, gnk_n, gi_1, Nat.reduceLT, if_true, if_false]
  have gsi_f : ∀ b j, ¬ (b = 0 ∧ j = 9) → (gm_si s4 0 9 1).1 b j = s4.1 b j := fun b j q => by rw [gsi_1, if_neg q]
  have u1 : ∀ b j, ¬ ((119 ≤ b ∧ b ≤ 136)) → s1.1 b j = s.1 b j := fun b j q => hC.2.2.1 b j (by omega)
  have u2 : ∀ b j, ¬ ((119 ≤ b ∧ b ≤ 136) ∨ (5 ≤ b ∧ b ≤ 8)) → s2.1 b j = s.1 b j := fun b j q => (b2 b j (by omega)).trans (u1 b j (by omega))
  have u3 : ∀ b j, ¬ ((119 ≤ b ∧ b ≤ 136) ∨ (5 ≤ b ∧ b ≤ 8) ∨ (13 ≤ b ∧ b ≤ 16)) → s3.1 b j = s.1 b j := fun b j q => (b3 b j (by omega)).trans (u2 b j (by omega))
  refine hq (gm_si s4 0 9 1) ⟨?_, ?_, ?_, gR_cg hR4 hk.1 rfl (fun b j q => gsi_f b j (by omega)), ⟨?_, g1.2.1, fun i r hr => ?_⟩, ⟨?_, g2.2.1, fun i r hr => ?_⟩, ⟨?_, g3.2.1, fun i r hr => ?_⟩, ?_⟩
  · show s4.2.2 = s.2.2
    rw [e2]
    exact hC.1
  · intro b k q
    show s4.2.1 b k = s.2.1 b k
    rw [e2]
    exact hC.2.1 b k q
  · intro b j q
    exact (gsi_f b j (by omega)).trans (fr b j (by omega))
  · exact (gsi_f _ _ (by omega)).trans ((b4 _ _ (by omega)).trans ((b3 _ _ (by omega)).trans (n2)))
  · have hi : i < l1.length := by
      obtain ⟨q, -⟩ := List.getElem?_eq_some_iff.mp hr
      exact q
    obtain ⟨x1, x2, x3⟩ := v2 i hi
    obtain ⟨y1, y2, y3⟩ := g1.2.2 i r hr
    exact ⟨(gsi_f _ _ (by omega)).trans ((b4 _ _ (by omega)).trans ((b3 _ _ (by omega)).trans (x1.trans ((u1 _ _ (by omega)).trans y1)))), (gsi_f _ _ (by omega)).trans ((b4 _ _ (by omega)).trans ((b3 _ _ (by omega)).trans (x2.trans ((u1 _ _ (by omega)).trans y2)))), (gsi_f _ _ (by omega)).trans ((b4 _ _ (by omega)).trans ((b3 _ _ (by omega)).trans (x3.trans ((u1 _ _ (by omega)).trans y3))))⟩
  · exact (gsi_f _ _ (by omega)).trans ((b4 _ _ (by omega)).trans (n3))
  · have hi : i < l2.length := by
      obtain ⟨q, -⟩ := List.getElem?_eq_some_iff.mp hr
      exact q
    obtain ⟨x1, x2, x3⟩ := v3 i hi
    obtain ⟨y1, y2⟩ := g2.2.2 i r hr
    exact ⟨(gsi_f _ _ (by omega)).trans ((b4 _ _ (by omega)).trans (x1.trans ((u2 _ _ (by omega)).trans y1))), fun q => (gsi_f _ _ (by omega)).trans ((b4 _ _ (by omega)).trans (x2.trans ((u2 _ _ (by omega)).trans (y2 q))))⟩
  · exact (gsi_f _ _ (by omega)).trans (n4)
  · have hi : i < l3.length := by
      obtain ⟨q, -⟩ := List.getElem?_eq_some_iff.mp hr
      exact q
    obtain ⟨x1, x2, x3⟩ := v4 i hi
    obtain ⟨y1, y2⟩ := g3.2.2 i r hr
    exact ⟨(gsi_f _ _ (by omega)).trans (x1.trans ((u3 _ _ (by omega)).trans y1)), (gsi_f _ _ (by omega)).trans (x2.trans ((u3 _ _ (by omega)).trans y2))⟩
  · rw [gsi_1, if_pos ⟨rfl, rfl⟩]
end
def cUnP (s s' : gm_S) (f m : Nat) (p : gA) (l1 : List gTr) (l2 l3 : List (Nat × Nat)) : Prop := s'.2.2 = s.2.2 ∧ (∀ b k, b ≠ 83 → s'.2.1 b k = s.2.1 b k) ∧ (∀ b j, ¬ ((83 ≤ b ∧ b ≤ 100) ∨ (1 ≤ b ∧ b ≤ 4) ∨ (9 ≤ b ∧ b ≤ 12) ∨ (17 ≤ b ∧ b ≤ 20)) → s'.1 b j = s.1 b j) ∧ gR s' 83 f m p ∧ cSx 1 s' l1 ∧ cPx 9 s' l2 ∧ cBx 17 s' l3
section
variable {w : Nat × (Nat → Int32)} {s : gm_S} {d f m : Nat} {p : gA} {l1 : List gTr} {l2 l3 : List (Nat × Nat)} {Q : Option Value → gc_M → Prop}
theorem cUn_c (h9 : s.1 0 9 = 1) (hR : gR s 119 f m p) (hk : gA_ok p) (g1 : cSx 5 s l1) (g2 : cPx 13 s l2) (g3 : cBx 21 s l3) (hq : ∀ s', cUnP s s' f m p l1 l2 l3 → Q (some (.int (nI p.1.2.1))) (gm_m s')) : gc_X w (d + 1) 89 0 [some (.ref 0)] [] (gm_m s) Q := by
  have hf := hR.2.1
  unfold gF_is at hf
  simp (decide := true) only [E_X11_undo_0, E_X11_undo_1, E_X11_undo_4, E_X11_undo_7, E_X11_undo_9, E_X11_undo_10, E_X11_undo_11, E_X11_undo_14, E_X11_undo_15, E_X11_undo_18, E_X11_undo_21, E_X11_undo_22, E_X11_undo_25, E_X11_undo_26, E_X11_undo_29, E_X11_undo_32, E_X11_undo_33, E_X11_undo_36, E_X11_undo_37, E_X11_undo_40, E_X11_undo_43, E_X11_undo_44, E_X11_undo_47, E_X11_undo_48, E_X11_undo_51, E_X11_undo_54, E_X11_undo_55, E_X11_undo_58, E_X11_undo_61, rk_0, rg_0_2, rg_0_0, rg_0_9, rc_119, rc_83, h9, List.map_nil, List.map_cons, List.sum_cons, List.sum_nil, gcat_i, gcat_r, gcat_l, Nat.reduceAdd, Nat.reduceLeDiff, Nat.zero_le, Option.toList, List.cons_append, List.nil_append, gnk_i, gnk_r, gnk_n, gi_1, Nat.reduceLT, if_true, if_false]
  refine gy_copy gZ_un hR hk (fun s1 D hC hR1 => ?_)
  simp only [E_X11_undo_0, E_X11_undo_1, E_X11_undo_4, E_X11_undo_7, E_X11_undo_9, E_X11_undo_10, E_X11_undo_11, E_X11_undo_14, E_X11_undo_15, E_X11_undo_18, E_X11_undo_21, E_X11_undo_22, E_X11_undo_25, E_X11_undo_26, E_X11_undo_29, E_X11_undo_32, E_X11_undo_33, E_X11_undo_36, E_X11_undo_37, E_X11_undo_40, E_X11_undo_43, E_X11_undo_44, E_X11_undo_47, E_X11_undo_48, E_X11_undo_51, E_X11_undo_54, E_X11_undo_55, E_X11_undo_58, E_X11_undo_61, rk_0, rg_0_3, rg_0_4, rc_1, List.map_nil, List.map_cons, List.sum_cons, List.sum_nil, gcat_i, gcat_r, gcat_l, Nat.reduceAdd, Nat.reduceLeDiff, Nat.zero_le, Option.toList, List.cons_append, List.nil_append, gnk_i, gnk_r, gnk_n, gi_1, Nat.reduceLT, if_true, if_false]
  refine c_rows_5 g1.2.1 ((hC.2.2.1 _ _ (by omega)).trans g1.1) (fun s2 a2 n2 v2 b2 => ?_)
  simp only [E_X11_undo_0, E_X11_undo_1, E_X11_undo_4, E_X11_undo_7, E_X11_undo_9, E_X11_undo_10, E_X11_undo_11, E_X11_undo_14, E_X11_undo_15, E_X11_undo_18, E_X11_undo_21, E_X11_undo_22, E_X11_undo_25, E_X11_undo_26, E_X11_undo_29, E_X11_undo_32, E_X11_undo_33, E_X11_undo_36, E_X11_undo_37, E_X11_undo_40, E_X11_undo_43, E_X11_undo_44, E_X11_undo_47, E_X11_undo_48, E_X11_undo_51, E_X11_undo_54, E_X11_undo_55, E_X11_undo_58, E_X11_undo_61, rk_0, rg_0_5, rg_0_6, rc_9, List.map_nil, List.map_cons, List.sum_cons, List.sum_nil, gcat_i, gcat_r, gcat_l, Nat.reduceAdd, Nat.reduceLeDiff, Nat.zero_le, Option.toList, List.cons_append, List.nil_append, gnk_i, gnk_r, gnk_n, gi_1, Nat.reduceLT, if_true, if_false]
  refine c_rows_13 g2.2.1 ((((b2 _ _ (by omega)).trans (hC.2.2.1 _ _ (by omega)))).trans g2.1) (fun s3 a3 n3 v3 b3 => ?_)
  simp only [E_X11_undo_0, E_X11_undo_1, E_X11_undo_4, E_X11_undo_7, E_X11_undo_9, E_X11_undo_10, E_X11_undo_11, E_X11_undo_14, E_X11_undo_15, E_X11_undo_18, E_X11_undo_21, E_X11_undo_22, E_X11_undo_25, E_X11_undo_26, E_X11_undo_29, E_X11_undo_32, E_X11_undo_33, E_X11_undo_36, E_X11_undo_37, E_X11_undo_40, E_X11_undo_43, E_X11_undo_44, E_X11_undo_47, E_X11_undo_48, E_X11_undo_51, E_X11_undo_54, E_X11_undo_55, E_X11_undo_58, E_X11_undo_61, rk_0, rg_0_7, rg_0_8, rc_17, List.map_nil, List.map_cons, List.sum_cons, List.sum_nil, gcat_i, gcat_r, gcat_l, Nat.reduceAdd, Nat.reduceLeDiff, Nat.zero_le, Option.toList, List.cons_append, List.nil_append, gnk_i, gnk_r, gnk_n, gi_1, Nat.reduceLT, if_true, if_false]
  refine c_rows_21 g3.2.1 ((((b3 _ _ (by omega)).trans (((b2 _ _ (by omega)).trans (hC.2.2.1 _ _ (by omega)))))).trans g3.1) (fun s4 a4 n4 v4 b4 => ?_)
  have fr : ∀ b j, ¬ ((83 ≤ b ∧ b ≤ 100) ∨ (1 ≤ b ∧ b ≤ 4) ∨ (9 ≤ b ∧ b ≤ 12) ∨ (17 ≤ b ∧ b ≤ 20)) → s4.1 b j = s.1 b j := fun b j q => (b4 b j (by omega)).trans ((b3 b j (by omega)).trans ((b2 b j (by omega)).trans (hC.2.2.1 b j (by omega))))
  have hR4 : gR s4 83 f m p := gR_cg hR1 hk.1 (by rw [a4, a3, a2]) (fun b j q => (b4 b j (by omega)).trans ((b3 b j (by omega)).trans (b2 b j (by omega))))
  have e2 : s4.2 = s1.2 := by rw [a4, a3, a2]
  have e4 : s4.1 83 4 = nI p.1.2.1 := hR4.2.2.2.2.2.1
  simp (decide := true) only [E_X11_undo_0, E_X11_undo_1, E_X11_undo_4, E_X11_undo_7, E_X11_undo_9, E_X11_undo_10, E_X11_undo_11, E_X11_undo_14, E_X11_undo_15, E_X11_undo_18, E_X11_undo_21, E_X11_undo_22, E_X11_undo_25, E_X11_undo_26, E_X11_undo_29, E_X11_undo_32, E_X11_undo_33, E_X11_undo_36, E_X11_undo_37, E_X11_undo_40, E_X11_undo_43, E_X11_undo_44, E_X11_undo_47, E_X11_undo_48, E_X11_undo_51, E_X11_undo_54, E_X11_undo_55, E_X11_undo_58, E_X11_undo_61, rk_0, rk_83, rg_0_0, rg_83_4, e4, List.map_nil, List.map_cons, List.sum_cons, List.sum_nil, gcat_i, gcat_r, gcat_l, Nat.reduceAdd, Nat.reduceLeDiff, Nat.zero_le, Option.toList, List.cons_append, List.nil_append, gnk_i, gnk_r, gnk_n, gi_1, Nat.reduceLT, if_true, if_false]
  have u1 : ∀ b j, ¬ ((83 ≤ b ∧ b ≤ 100)) → s1.1 b j = s.1 b j := fun b j q => hC.2.2.1 b j (by omega)
  have u2 : ∀ b j, ¬ ((83 ≤ b ∧ b ≤ 100) ∨ (1 ≤ b ∧ b ≤ 4)) → s2.1 b j = s.1 b j := fun b j q => (b2 b j (by omega)).trans (u1 b j (by omega))
  have u3 : ∀ b j, ¬ ((83 ≤ b ∧ b ≤ 100) ∨ (1 ≤ b ∧ b ≤ 4) ∨ (9 ≤ b ∧ b ≤ 12)) → s3.1 b j = s.1 b j := fun b j q => (b3 b j (by omega)).trans (u2 b j (by omega))
  refine hq s4 ⟨?_, ?_, ?_, hR4, ⟨?_, g1.2.1, fun i r hr => ?_⟩, ⟨?_, g2.2.1, fun i r hr => ?_⟩, ⟨?_, g3.2.1, fun i r hr => ?_⟩⟩
  · rw [e2]
    exact hC.1
  · intro b k q
    rw [e2]
    exact hC.2.1 b k q
  · intro b j q
    exact fr b j (by omega)
  · exact (b4 _ _ (by omega)).trans ((b3 _ _ (by omega)).trans (n2))
  · have hi : i < l1.length := by
      obtain ⟨q, -⟩ := List.getElem?_eq_some_iff.mp hr
      exact q
    obtain ⟨x1, x2, x3⟩ := v2 i hi
    obtain ⟨y1, y2, y3⟩ := g1.2.2 i r hr
    exact ⟨(b4 _ _ (by omega)).trans ((b3 _ _ (by omega)).trans (x1.trans ((u1 _ _ (by omega)).trans y1))), (b4 _ _ (by omega)).trans ((b3 _ _ (by omega)).trans (x2.trans ((u1 _ _ (by omega)).trans y2))), (b4 _ _ (by omega)).trans ((b3 _ _ (by omega)).trans (x3.trans ((u1 _ _ (by omega)).trans y3)))⟩
  · exact (b4 _ _ (by omega)).trans (n3)
  · have hi : i < l2.length := by
      obtain ⟨q, -⟩ := List.getElem?_eq_some_iff.mp hr
      exact q
    obtain ⟨x1, x2, x3⟩ := v3 i hi
    obtain ⟨y1, y2⟩ := g2.2.2 i r hr
    exact ⟨(b4 _ _ (by omega)).trans (x1.trans ((u2 _ _ (by omega)).trans y1)), fun q => (b4 _ _ (by omega)).trans (x2.trans ((u2 _ _ (by omega)).trans (y2 q)))⟩
  · exact n4
  · have hi : i < l3.length := by
      obtain ⟨q, -⟩ := List.getElem?_eq_some_iff.mp hr
      exact q
    obtain ⟨x1, x2, x3⟩ := v4 i hi
    obtain ⟨y1, y2⟩ := g3.2.2 i r hr
    exact ⟨x1.trans ((u3 _ _ (by omega)).trans y1), x2.trans ((u3 _ _ (by omega)).trans y2)⟩
end
