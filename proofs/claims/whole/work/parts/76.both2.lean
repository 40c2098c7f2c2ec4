/-! both sides: see, plan, book -/
theorem W4 {s : gm_S} {a b c o n k : Nat} {x y z v : Int32} (h : a ≠ b ∧ a ≠ c ∧ b ≠ c ∧ a ≠ o ∧ b ≠ o ∧ c ≠ o) : (∀ j, (gm_si (gm_si (gm_si (gm_si s a n x) b n y) c n z) o k v).1 a j = if j = n then x else s.1 a j) ∧ (∀ j, (gm_si (gm_si (gm_si (gm_si s a n x) b n y) c n z) o k v).1 b j = if j = n then y else s.1 b j) ∧ (∀ j, (gm_si (gm_si (gm_si (gm_si s a n x) b n y) c n z) o k v).1 c j = if j = n then z else s.1 c j) ∧ (gm_si (gm_si (gm_si (gm_si s a n x) b n y) c n z) o k v).1 o k = v := by
  refine ⟨fun j => ?_, fun j => ?_, fun j => ?_, ?_⟩
  · rw [gsi_1, if_neg (fun e => by omega), gsi_1, if_neg (fun e => by omega), gsi_1, if_neg (fun e => by omega), gsi_1]
    by_cases e : j = n
    · rw [if_pos ⟨rfl, e⟩, if_pos e]
    · rw [if_neg (fun q => e q.2), if_neg e]
  · rw [gsi_1, if_neg (fun e => by omega), gsi_1, if_neg (fun e => by omega), gsi_1]
    by_cases e : j = n
    · rw [if_pos ⟨rfl, e⟩, if_pos e]
    · rw [if_neg (fun q => e q.2), if_neg e, gsi_1, if_neg (fun e => by omega)]
  · rw [gsi_1, if_neg (fun e => by omega), gsi_1]
    by_cases e : j = n
    · rw [if_pos ⟨rfl, e⟩, if_pos e]
    · rw [if_neg (fun q => e q.2), if_neg e, gsi_1, if_neg (fun e => by omega), gsi_1, if_neg (fun e => by omega)]
  · rw [gsi_1, if_pos ⟨rfl, rfl⟩]
theorem W3 {s : gm_S} {a b o n k : Nat} {x y v : Int32} (h : a ≠ b ∧ a ≠ o ∧ b ≠ o) : (∀ j, (gm_si (gm_si (gm_si s a n x) b n y) o k v).1 a j = if j = n then x else s.1 a j) ∧ (∀ j, (gm_si (gm_si (gm_si s a n x) b n y) o k v).1 b j = if j = n then y else s.1 b j) ∧ (gm_si (gm_si (gm_si s a n x) b n y) o k v).1 o k = v := by
  refine ⟨fun j => ?_, fun j => ?_, ?_⟩
  · rw [gsi_1, if_neg (fun e => by omega), gsi_1, if_neg (fun e => by omega), gsi_1]
    by_cases e : j = n
    · rw [if_pos ⟨rfl, e⟩, if_pos e]
    · rw [if_neg (fun q => e q.2), if_neg e]
  · rw [gsi_1, if_neg (fun e => by omega), gsi_1]
    by_cases e : j = n
    · rw [if_pos ⟨rfl, e⟩, if_pos e]
    · rw [if_neg (fun q => e q.2), if_neg e, gsi_1, if_neg (fun e => by omega)]
  · rw [gsi_1, if_pos ⟨rfl, rfl⟩]
section
variable {s s' : gm_S} {b k a m : Nat}
theorem cSx_ext {l : List gTr} {r : gTr} (h : cSx b s l) (hl : l.length < 5) (e : s'.1 b 3 = nI (l.length + 1)) (e1 : ∀ j, s'.1 (b + 1) j = if j = l.length then nI r.1 else s.1 (b + 1) j) (e2 : ∀ j, s'.1 (b + 2) j = if j = l.length then nI r.2.1 else s.1 (b + 2) j) (e3 : ∀ j, s'.1 (b + 3) j = if j = l.length then nI r.2.2 else s.1 (b + 3) j) : cSx b s' (l ++ [r]) := by
  refine ⟨by rw [e]; simp, by simp; omega, fun i q hq => ?_⟩
  rw [e1, e2, e3]
  rcases get_app hq with ⟨hi, hq⟩ | ⟨hi, hq⟩
  · rw [if_neg (by omega), if_neg (by omega), if_neg (by omega)]
    exact h.2.2 i q hq
  · rw [if_pos hi, if_pos hi, if_pos hi, hq]
    exact ⟨rfl, rfl, rfl⟩
theorem mSx_ext {l : List gTr} {r : gTr} (h : mSx k a s l) (hl : l.length < 5) (e : s'.1 137 k = nI (l.length + 1)) (e1 : ∀ j, s'.1 a j = if j = l.length then nI r.1 else s.1 a j) (e2 : ∀ j, s'.1 (a + 1) j = if j = l.length then nI r.2.1 else s.1 (a + 1) j) (e3 : ∀ j, s'.1 (a + 2) j = if j = l.length then nI r.2.2 else s.1 (a + 2) j) : mSx k a s' (l ++ [r]) := by
  refine ⟨by rw [e]; simp, by simp; omega, fun i q hq => ?_⟩
  rw [e1, e2, e3]
  rcases get_app hq with ⟨hi, hq⟩ | ⟨hi, hq⟩
  · rw [if_neg (by omega), if_neg (by omega), if_neg (by omega)]
    exact h.2.2 i q hq
  · rw [if_pos hi, if_pos hi, if_pos hi, hq]
    exact ⟨rfl, rfl, rfl⟩
theorem cPx_ext {l : List (Nat × Nat)} {r : Nat × Nat} {y : Int32} (h : cPx b s l) (hl : l.length < 10) (e : s'.1 b 3 = nI (l.length + 1)) (e1 : ∀ j, s'.1 (b + 1) j = if j = l.length then nI r.1 else s.1 (b + 1) j) (e2 : ∀ j, s'.1 (b + 2) j = if j = l.length then y else s.1 (b + 2) j) (hy : r.1 ≠ 0 → y = nI r.2) : cPx b s' (l ++ [r]) := by
  refine ⟨by rw [e]; simp, by simp; omega, fun i q hq => ?_⟩
  rw [e1, e2]
  rcases get_app hq with ⟨hi, hq⟩ | ⟨hi, hq⟩
  · rw [if_neg (by omega), if_neg (by omega)]
    exact h.2.2 i q hq
  · rw [if_pos hi, if_pos hi, hq]
    exact ⟨rfl, hy⟩
theorem cBx_ext {l : List (Nat × Nat)} {r : Nat × Nat} (h : cBx b s l) (hl : l.length < 8) (e : s'.1 b 3 = nI (l.length + 1)) (e1 : ∀ j, s'.1 (b + 1) j = if j = l.length then nI r.1 else s.1 (b + 1) j) (e2 : ∀ j, s'.1 (b + 2) j = if j = l.length then nI r.2 else s.1 (b + 2) j) : cBx b s' (l ++ [r]) := by
  refine ⟨by rw [e]; simp, by simp; omega, fun i q hq => ?_⟩
  rw [e1, e2]
  rcases get_app hq with ⟨hi, hq⟩ | ⟨hi, hq⟩
  · rw [if_neg (by omega), if_neg (by omega)]
    exact h.2.2 i q hq
  · rw [if_pos hi, if_pos hi, hq]
    exact ⟨rfl, rfl⟩
theorem mPx_ext {l : List (Nat × Nat)} {r : Nat × Nat} (h : mPx k a m s l) (hl : l.length < m) (e : s'.1 137 k = nI (l.length + 1)) (e1 : ∀ j, s'.1 a j = if j = l.length then nI r.1 else s.1 a j) (e2 : ∀ j, s'.1 (a + 1) j = if j = l.length then nI r.2 else s.1 (a + 1) j) : mPx k a m s' (l ++ [r]) := by
  refine ⟨by rw [e]; simp, by simp; omega, fun i q hq => ?_⟩
  rw [e1, e2]
  rcases get_app hq with ⟨hi, hq⟩ | ⟨hi, hq⟩
  · rw [if_neg (by omega), if_neg (by omega)]
    exact h.2.2 i q hq
  · rw [if_pos hi, if_pos hi, hq]
    exact ⟨rfl, rfl⟩
end
theorem all_ext {α : Type} {l : List α} {r : α} {P : α → Prop} (h : ∀ q, q ∈ l → P q) (hr : P r) : ∀ q, q ∈ l ++ [r] → P q := by
  intro q hq
  rcases List.mem_append.mp hq with hq | hq
  · exact h q hq
  · rw [List.mem_singleton.mp hq]
    exact hr
theorem sn_m1 : ∀ t, t < 8 → (nI t = -1) = False := fun t h => eq_false (nI_nm1 h)
section
variable {w : Nat × (Nat → Int32)} {s : gm_S} {x y z : Int32}
theorem i_see (h : gInv s) : gBoth w 79 169 [some (.ref 0), some (.int x), some (.int y), some (.int z)] [some (.ref 137), some (.int x), some (.int y), some (.int z)] s := by
  have h0 := h
  obtain ⟨φ, p, cu, cs, f, l1, l2, l3, h⟩ := gInv_I h
  have hk := gI_ok h
  have k8 := hk.2.1
  have hw := fun (s : gm_S) (a b : Int32) (Q : Option Value → gc_M → Prop) => c_within (w := w) (d := 39) (s := s) (x := a) (y := b) (Q := Q)
  have hht := fun (z : Int32) (Q : Option Value → gc_M → Prop) => gy_hasThing (w := w) (d := 39) (x := z) (Q := Q) (gI_R h)
  have hin := fun (a b c : Int32) (s : gm_S) (Q : Option Value → gc_M → Prop) => m_in (w := w) (d := 39) (s := s) (x := a) (y := b) (z := c) (Q := Q)
  have hL := h.2.2.1
  have hic := fun (s' : gm_S) (hR : mR s' p) (a : Int32) (Q : Option Value → gc_M → Prop) => m_isThing (w := w) (d := 38) (x := a) (Q := Q) hR hk
  have hic0 := hic s (gI_mR h)
  unfold gBoth
  by_cases xm : x = -1
  · simp only [E_X11_see_0, E_X11_see_1, E_X11_see_2, E_X11_see_5, E_X11_see_6, E_X11_see_9, E_X11_see_12, E_X11_see_13, E_X11_see_14, E_X11_see_17, E_X11_see_18, E_X11_see_21, E_X11_see_24, E_X11_see_25, E_X11_see_26, E_X11_see_27, E_X11_see_29, E_X11_see_32, E_X11_see_35, E_X11_see_36, E_X11_see_37, E_X11_see_40, E_X11_see_43, E_X11_see_45, E_X11_see_46, E_X11_see_47, E_X11_see_50, E_X11_see_51, E_X11_see_52, E_X11_see_53, E_X11_see_56, rk_0, rc_1, rg_0_3, c_clear1, xm, List.map_nil, List.map_cons, List.sum_cons, List.sum_nil, gcat_i, gcat_r, gcat_l, Nat.reduceAdd, Nat.reduceLeDiff, Nat.zero_le, Option.toList, List.cons_append, List.nil_append, gnk_i, gnk_r, gnk_n, gi_1, Nat.reduceLT, if_true, if_false]
    refine ⟨_, rfl, ?_⟩
    simp only [E_X12_see_0, E_X12_see_1, E_X12_see_2, E_X12_see_5, E_X12_see_6, E_X12_see_7, E_X12_see_10, E_X12_see_11, E_X12_see_12, E_X12_see_13, E_X12_see_14, E_X12_see_17, E_X12_see_20, E_X12_see_21, E_X12_see_22, E_X12_see_23, E_X12_see_24, E_X12_see_25, E_X12_see_27, E_X12_see_30, E_X12_see_33, E_X12_see_34, E_X12_see_35, E_X12_see_36, E_X12_see_37, E_X12_see_40, E_X12_see_43, E_X12_see_45, E_X12_see_46, E_X12_see_47, E_X12_see_50, E_X12_see_51, E_X12_see_54, E_X12_see_56, E_X12_see_57, E_X12_see_58, E_X12_see_61, E_X12_see_62, E_X12_see_65, E_X12_see_66, E_X12_see_67, E_X12_see_68, E_X12_see_71, E_X12_see_72, E_X12_see_75, E_X12_see_76, E_X12_see_77, E_X12_see_78, E_X12_see_81, E_X12_see_82, E_X12_see_85, E_X12_see_86, E_X12_see_87, E_X12_see_88, E_X12_see_89, E_X12_see_92, E_X12_see_93, E_X12_see_94, E_X12_see_97, E_X12_see_98, E_X12_see_101, rk_137, rp_137_38, gnk_i, gnk_r, gnk_n, gi_1, Nat.reduceLT, if_true, if_false]
    refine ⟨_, rfl, (by first | exact trivial | rfl), ⟨_, rfl⟩, gI_L (k1 := []) (k2 := l2) (k3 := l3) h (gAg_si (gAg_si gAg_refl (by unfold pL; omega)) (by unfold pL; omega)) ⟨⟨⟨?_, by simp, fun i r hr => by simp at hr⟩, ⟨?_, by simp, fun i r hr => by simp at hr⟩, fun r hr => by simp at hr⟩, ?_, ?_⟩⟩
    · rw [gsi_1, if_neg (fun e => by omega), gsi_1, if_pos ⟨rfl, rfl⟩]
      rfl
    · rw [gsi_1, if_pos ⟨rfl, rfl⟩]
      rfl
    · exact ⟨cPx_cg hL.2.1.1 (fun c j _ _ => by rw [gsi_1, if_neg (fun e => by omega), gsi_1, if_neg (fun e => by omega)]), mPx_cg hL.2.1.2.1 (by rw [gsi_1, if_neg (fun e => by omega), gsi_1, if_neg (fun e => by omega)]) (fun c j _ _ => by rw [gsi_1, if_neg (fun e => by omega), gsi_1, if_neg (fun e => by omega)]), hL.2.1.2.2⟩
    · exact ⟨cBx_cg hL.2.2.1 (fun c j _ _ => by rw [gsi_1, if_neg (fun e => by omega), gsi_1, if_neg (fun e => by omega)]), mPx_cg hL.2.2.2.1 (by rw [gsi_1, if_neg (fun e => by omega), gsi_1, if_neg (fun e => by omega)]) (fun c j _ _ => by rw [gsi_1, if_neg (fun e => by omega), gsi_1, if_neg (fun e => by omega)]), hL.2.2.2.2⟩
  cases b1 : gA_of p.1.2.2 x with
  | false =>
    simp only [E_X11_see_0, E_X11_see_1, E_X11_see_2, E_X11_see_5, E_X11_see_6, E_X11_see_9, E_X11_see_12, E_X11_see_13, E_X11_see_14, E_X11_see_17, E_X11_see_18, E_X11_see_21, E_X11_see_24, E_X11_see_25, E_X11_see_26, E_X11_see_27, E_X11_see_29, E_X11_see_32, E_X11_see_35, E_X11_see_36, E_X11_see_37, E_X11_see_40, E_X11_see_43, E_X11_see_45, E_X11_see_46, E_X11_see_47, E_X11_see_50, E_X11_see_51, E_X11_see_52, E_X11_see_53, E_X11_see_56, rk_0, rc_83, rg_0_0, hht, b1, xm, gb_0, List.map_nil, List.map_cons, List.sum_cons, List.sum_nil, gcat_i, gcat_r, gcat_l, Nat.reduceAdd, Nat.reduceLeDiff, Nat.zero_le, Option.toList, List.cons_append, List.nil_append, gnk_i, gnk_r, gnk_n, gi_1, Nat.reduceLT, if_true, if_false]
    refine ⟨s, rfl, ?_⟩
    simp only [E_X12_see_0, E_X12_see_1, E_X12_see_2, E_X12_see_5, E_X12_see_6, E_X12_see_7, E_X12_see_10, E_X12_see_11, E_X12_see_12, E_X12_see_13, E_X12_see_14, E_X12_see_17, E_X12_see_20, E_X12_see_21, E_X12_see_22, E_X12_see_23, E_X12_see_24, E_X12_see_25, E_X12_see_27, E_X12_see_30, E_X12_see_33, E_X12_see_34, E_X12_see_35, E_X12_see_36, E_X12_see_37, E_X12_see_40, E_X12_see_43, E_X12_see_45, E_X12_see_46, E_X12_see_47, E_X12_see_50, E_X12_see_51, E_X12_see_54, E_X12_see_56, E_X12_see_57, E_X12_see_58, E_X12_see_61, E_X12_see_62, E_X12_see_65, E_X12_see_66, E_X12_see_67, E_X12_see_68, E_X12_see_71, E_X12_see_72, E_X12_see_75, E_X12_see_76, E_X12_see_77, E_X12_see_78, E_X12_see_81, E_X12_see_82, E_X12_see_85, E_X12_see_86, E_X12_see_87, E_X12_see_88, E_X12_see_89, E_X12_see_92, E_X12_see_93, E_X12_see_94, E_X12_see_97, E_X12_see_98, E_X12_see_101, rc_137, hic0, b1, xm, gb_0, List.map_nil, List.map_cons, List.sum_cons, List.sum_nil, gcat_i, gcat_r, gcat_l, Nat.reduceAdd, Nat.reduceLeDiff, Nat.zero_le, Option.toList, List.cons_append, List.nil_append, gnk_i, gnk_r, gnk_n, gi_1, Nat.reduceLT, if_true, if_false]
    exact ⟨s, rfl, (by first | exact trivial | rfl), ⟨_, rfl⟩, h0⟩
  | true =>
    by_cases b2 : gB_in y 0 12 = true ∧ gB_in z 0 3 = true
    · obtain ⟨b2, b3⟩ := b2
      obtain ⟨t, ht, e1⟩ := gA_of_ex b1 (by omega)
      obtain ⟨j, hj, e2⟩ := gB_in_ex (k := 12) b2 (by decide)
      obtain ⟨v, hv, e3⟩ := gB_in_ex (k := 3) b3 (by decide)
      subst e1 e2 e3
      have hcn : s.1 1 3 = nI l1.length := hL.1.1.1
      have hmn : s.1 137 38 = nI l1.length := hL.1.2.1.1
      have hl5 : l1.length ≤ 5 := hL.1.1.2.1
      by_cases h5 : l1.length = 5
      · rw [h5] at hcn hmn
        have hn5 : nI 5 = 5 := rfl
        simp only [E_X11_see_0, E_X11_see_1, E_X11_see_2, E_X11_see_5, E_X11_see_6, E_X11_see_9, E_X11_see_12, E_X11_see_13, E_X11_see_14, E_X11_see_17, E_X11_see_18, E_X11_see_21, E_X11_see_24, E_X11_see_25, E_X11_see_26, E_X11_see_27, E_X11_see_29, E_X11_see_32, E_X11_see_35, E_X11_see_36, E_X11_see_37, E_X11_see_40, E_X11_see_43, E_X11_see_45, E_X11_see_46, E_X11_see_47, E_X11_see_50, E_X11_see_51, E_X11_see_52, E_X11_see_53, E_X11_see_56, rk_0, rc_1, rc_83, rg_0_0, rg_0_3, hht, hw, b1, b2, b3, xm, gb_1, g1_0, c_full1 hcn, List.map_nil, List.map_cons, List.sum_cons, List.sum_nil, gcat_i, gcat_r, gcat_l, Nat.reduceAdd, Nat.reduceLeDiff, Nat.zero_le, Option.toList, List.cons_append, List.nil_append, gnk_i, gnk_r, gnk_n, gi_1, Nat.reduceLT, if_true, if_false]
        refine ⟨s, rfl, ?_⟩
        simp only [E_X12_see_0, E_X12_see_1, E_X12_see_2, E_X12_see_5, E_X12_see_6, E_X12_see_7, E_X12_see_10, E_X12_see_11, E_X12_see_12, E_X12_see_13, E_X12_see_14, E_X12_see_17, E_X12_see_20, E_X12_see_21, E_X12_see_22, E_X12_see_23, E_X12_see_24, E_X12_see_25, E_X12_see_27, E_X12_see_30, E_X12_see_33, E_X12_see_34, E_X12_see_35, E_X12_see_36, E_X12_see_37, E_X12_see_40, E_X12_see_43, E_X12_see_45, E_X12_see_46, E_X12_see_47, E_X12_see_50, E_X12_see_51, E_X12_see_54, E_X12_see_56, E_X12_see_57, E_X12_see_58, E_X12_see_61, E_X12_see_62, E_X12_see_65, E_X12_see_66, E_X12_see_67, E_X12_see_68, E_X12_see_71, E_X12_see_72, E_X12_see_75, E_X12_see_76, E_X12_see_77, E_X12_see_78, E_X12_see_81, E_X12_see_82, E_X12_see_85, E_X12_see_86, E_X12_see_87, E_X12_see_88, E_X12_see_89, E_X12_see_92, E_X12_see_93, E_X12_see_94, E_X12_see_97, E_X12_see_98, E_X12_see_101, rk_137, rc_137, rg_137_38, hmn, hn5, hic0, hin, b1, b2, b3, xm, gb_1, g1_0, List.map_nil, List.map_cons, List.sum_cons, List.sum_nil, gcat_i, gcat_r, gcat_l, Nat.reduceAdd, Nat.reduceLeDiff, Nat.zero_le, Option.toList, List.cons_append, List.nil_append, gnk_i, gnk_r, gnk_n, gi_1, Nat.reduceLT, if_true, if_false]
        exact ⟨s, rfl, (by first | exact trivial | rfl), ⟨_, rfl⟩, h0⟩
      · have h5' : l1.length < 5 := by omega
        have hca := fun (Q : Option Value → gc_M → Prop) => c_add1 (w := w) (d := 39) (x := nI t) (y := nI j) (z := nI v) (Q := Q) hcn h5'
        simp only [E_X11_see_0, E_X11_see_1, E_X11_see_2, E_X11_see_5, E_X11_see_6, E_X11_see_9, E_X11_see_12, E_X11_see_13, E_X11_see_14, E_X11_see_17, E_X11_see_18, E_X11_see_21, E_X11_see_24, E_X11_see_25, E_X11_see_26, E_X11_see_27, E_X11_see_29, E_X11_see_32, E_X11_see_35, E_X11_see_36, E_X11_see_37, E_X11_see_40, E_X11_see_43, E_X11_see_45, E_X11_see_46, E_X11_see_47, E_X11_see_50, E_X11_see_51, E_X11_see_52, E_X11_see_53, E_X11_see_56, rk_0, rc_1, rc_83, rg_0_0, rg_0_3, hht, hw, b1, b2, b3, xm, gb_1, g1_0, hca, List.map_nil, List.map_cons, List.sum_cons, List.sum_nil, gcat_i, gcat_r, gcat_l, Nat.reduceAdd, Nat.reduceLeDiff, Nat.zero_le, Option.toList, List.cons_append, List.nil_append, gnk_i, gnk_r, gnk_n, gi_1, Nat.reduceLT, if_true, if_false]
        refine ⟨_, rfl, ?_⟩
        obtain ⟨S, hS⟩ : ∃ S, S = gm_si (gm_si (gm_si (gm_si s 2 l1.length (nI t)) 3 l1.length (nI j)) 4 l1.length (nI v)) 1 3 (nI (l1.length + 1)) := ⟨_, rfl⟩
        have hA : gAg pL s S := by
          rw [hS]
          exact gAg_si (gAg_si (gAg_si (gAg_si gAg_refl (by unfold pL; omega)) (by unfold pL; omega)) (by unfold pL; omega)) (by unfold pL; omega)
        have hA2 : ∀ b j, 4 < b → S.1 b j = s.1 b j := fun b j q => by
          rw [hS, gsi_1, if_neg (fun e => by omega), gsi_1, if_neg (fun e => by omega), gsi_1, if_neg (fun e => by omega), gsi_1, if_neg (fun e => by omega)]
        have hW := W4 (s := s) (a := 2) (b := 3) (c := 4) (o := 1) (n := l1.length) (k := 3) (x := nI t) (y := nI j) (z := nI v) (v := nI (l1.length + 1)) (by omega)
        rw [← hS] at hW ⊢
        have hc1 : cSx 1 S (l1 ++ [(t, j, v)]) := cSx_ext hL.1.1 h5' hW.2.2.2 hW.1 hW.2.1 hW.2.2.1
        have hmR : mR S p := mR_cg (gI_mR h) hk (fun j hj => hA2 _ _ (by omega)) (fun b j q => hA2 _ _ (by omega)) (fun b j q _ _ => hA2 _ _ (by omega))
        have hic1 := hic S hmR
        have hmS : mSx 38 163 S l1 := mSx_cg hL.1.2.1 (hA2 _ _ (by omega)) (fun c j q _ => hA2 _ _ (by omega))
        have hmn2 : S.1 137 38 = nI l1.length := hmS.1
        have n5 : ¬ nI l1.length = 5 := fun e => h5 ((nI_eq (b := 5) (by omega) (by omega)).mp e)
        have i1 : vp_in (nI l1.length) 5 := vp_in_nI (by omega) (by omega)
        have i2 : (nI l1.length).toNatClampNeg = l1.length := nI_clamp (by omega)
        have hs1 : nI l1.length + 1 = nI (l1.length + 1) := nI_1 _
        simp only [E_X12_see_0, E_X12_see_1, E_X12_see_2, E_X12_see_5, E_X12_see_6, E_X12_see_7, E_X12_see_10, E_X12_see_11, E_X12_see_12, E_X12_see_13, E_X12_see_14, E_X12_see_17, E_X12_see_20, E_X12_see_21, E_X12_see_22, E_X12_see_23, E_X12_see_24, E_X12_see_25, E_X12_see_27, E_X12_see_30, E_X12_see_33, E_X12_see_34, E_X12_see_35, E_X12_see_36, E_X12_see_37, E_X12_see_40, E_X12_see_43, E_X12_see_45, E_X12_see_46, E_X12_see_47, E_X12_see_50, E_X12_see_51, E_X12_see_54, E_X12_see_56, E_X12_see_57, E_X12_see_58, E_X12_see_61, E_X12_see_62, E_X12_see_65, E_X12_see_66, E_X12_see_67, E_X12_see_68, E_X12_see_71, E_X12_see_72, E_X12_see_75, E_X12_see_76, E_X12_see_77, E_X12_see_78, E_X12_see_81, E_X12_see_82, E_X12_see_85, E_X12_see_86, E_X12_see_87, E_X12_see_88, E_X12_see_89, E_X12_see_92, E_X12_see_93, E_X12_see_94, E_X12_see_97, E_X12_see_98, E_X12_see_101, rk_137, rc_137, rg_137_38, rg_137_39, rg_137_40, rg_137_41, rp_137_38, ra_163, rs_163, ra_164, rs_164, ra_165, rs_165, i1, i2, hmn2, n5, hs1, hic1, hin, b1, b2, b3, xm, gb_1, g1_0, gsi_1, Nat.reduceEqDiff, false_and, and_self, List.map_nil, List.map_cons, List.sum_cons, List.sum_nil, gcat_i, gcat_r, gcat_l, Nat.reduceAdd, Nat.reduceLeDiff, Nat.zero_le, Option.toList, List.cons_append, List.nil_append, gnk_i, gnk_r, gnk_n, gi_1, Nat.reduceLT, if_true, if_false]
        have hW2 := W4 (s := S) (a := 163) (b := 164) (c := 165) (o := 137) (n := l1.length) (k := 38) (x := nI t) (y := nI j) (z := nI v) (v := nI (l1.length + 1)) (by omega)
        refine ⟨_, rfl, (by first | exact trivial | rfl), ⟨_, rfl⟩, gI_L (k1 := l1 ++ [(t, j, v)]) (k2 := l2) (k3 := l3) h (gAg_si (gAg_si (gAg_si (gAg_si hA (by unfold pL; omega)) (by unfold pL; omega)) (by unfold pL; omega)) (by unfold pL; omega)) ⟨⟨cSx_cg hc1 (fun c j _ _ => by rw [gsi_1, if_neg (fun e => by omega), gsi_1, if_neg (fun e => by omega), gsi_1, if_neg (fun e => by omega), gsi_1, if_neg (fun e => by omega)]), mSx_ext hmS h5' hW2.2.2.2 hW2.1 hW2.2.1 hW2.2.2.1, all_ext hL.1.2.2 ⟨ht, hj, hv⟩⟩, ?_, ?_⟩⟩
        · exact ⟨cPx_cg hL.2.1.1 (fun c j _ _ => by rw [gsi_1, if_neg (fun e => by omega), gsi_1, if_neg (fun e => by omega), gsi_1, if_neg (fun e => by omega), gsi_1, if_neg (fun e => by omega)]; exact hA2 _ _ (by omega)), mPx_cg hL.2.1.2.1 (by rw [gsi_1, if_neg (fun e => by omega), gsi_1, if_neg (fun e => by omega), gsi_1, if_neg (fun e => by omega), gsi_1, if_neg (fun e => by omega)]; exact hA2 _ _ (by omega)) (fun c j _ _ => by rw [gsi_1, if_neg (fun e => by omega), gsi_1, if_neg (fun e => by omega), gsi_1, if_neg (fun e => by omega), gsi_1, if_neg (fun e => by omega)]; exact hA2 _ _ (by omega)), hL.2.1.2.2⟩
        · exact ⟨cBx_cg hL.2.2.1 (fun c j _ _ => by rw [gsi_1, if_neg (fun e => by omega), gsi_1, if_neg (fun e => by omega), gsi_1, if_neg (fun e => by omega), gsi_1, if_neg (fun e => by omega)]; exact hA2 _ _ (by omega)), mPx_cg hL.2.2.2.1 (by rw [gsi_1, if_neg (fun e => by omega), gsi_1, if_neg (fun e => by omega), gsi_1, if_neg (fun e => by omega), gsi_1, if_neg (fun e => by omega)]; exact hA2 _ _ (by omega)) (fun c j _ _ => by rw [gsi_1, if_neg (fun e => by omega), gsi_1, if_neg (fun e => by omega), gsi_1, if_neg (fun e => by omega), gsi_1, if_neg (fun e => by omega)]; exact hA2 _ _ (by omega)), hL.2.2.2.2⟩
    · cases c2 : gB_in y 0 12 <;> cases c3 : gB_in z 0 3
      · simp only [E_X11_see_0, E_X11_see_1, E_X11_see_2, E_X11_see_5, E_X11_see_6, E_X11_see_9, E_X11_see_12, E_X11_see_13, E_X11_see_14, E_X11_see_17, E_X11_see_18, E_X11_see_21, E_X11_see_24, E_X11_see_25, E_X11_see_26, E_X11_see_27, E_X11_see_29, E_X11_see_32, E_X11_see_35, E_X11_see_36, E_X11_see_37, E_X11_see_40, E_X11_see_43, E_X11_see_45, E_X11_see_46, E_X11_see_47, E_X11_see_50, E_X11_see_51, E_X11_see_52, E_X11_see_53, E_X11_see_56, rk_0, rc_83, rg_0_0, hht, hw, b1, c2, c3, xm, gb_0, gb_1, g1_0, List.map_nil, List.map_cons, List.sum_cons, List.sum_nil, gcat_i, gcat_r, gcat_l, Nat.reduceAdd, Nat.reduceLeDiff, Nat.zero_le, Option.toList, List.cons_append, List.nil_append, gnk_i, gnk_r, gnk_n, gi_1, Nat.reduceLT, if_true, if_false]
        refine ⟨s, rfl, ?_⟩
        simp only [E_X12_see_0, E_X12_see_1, E_X12_see_2, E_X12_see_5, E_X12_see_6, E_X12_see_7, E_X12_see_10, E_X12_see_11, E_X12_see_12, E_X12_see_13, E_X12_see_14, E_X12_see_17, E_X12_see_20, E_X12_see_21, E_X12_see_22, E_X12_see_23, E_X12_see_24, E_X12_see_25, E_X12_see_27, E_X12_see_30, E_X12_see_33, E_X12_see_34, E_X12_see_35, E_X12_see_36, E_X12_see_37, E_X12_see_40, E_X12_see_43, E_X12_see_45, E_X12_see_46, E_X12_see_47, E_X12_see_50, E_X12_see_51, E_X12_see_54, E_X12_see_56, E_X12_see_57, E_X12_see_58, E_X12_see_61, E_X12_see_62, E_X12_see_65, E_X12_see_66, E_X12_see_67, E_X12_see_68, E_X12_see_71, E_X12_see_72, E_X12_see_75, E_X12_see_76, E_X12_see_77, E_X12_see_78, E_X12_see_81, E_X12_see_82, E_X12_see_85, E_X12_see_86, E_X12_see_87, E_X12_see_88, E_X12_see_89, E_X12_see_92, E_X12_see_93, E_X12_see_94, E_X12_see_97, E_X12_see_98, E_X12_see_101, rc_137, hic0, hin, b1, c2, c3, xm, gb_0, gb_1, g1_0, List.map_nil, List.map_cons, List.sum_cons, List.sum_nil, gcat_i, gcat_r, gcat_l, Nat.reduceAdd, Nat.reduceLeDiff, Nat.zero_le, Option.toList, List.cons_append, List.nil_append, gnk_i, gnk_r, gnk_n, gi_1, Nat.reduceLT, if_true, if_false]
        exact ⟨s, rfl, (by first | exact trivial | rfl), ⟨_, rfl⟩, h0⟩
      · simp only [E_X11_see_0, E_X11_see_1, E_X11_see_2, E_X11_see_5, E_X11_see_6, E_X11_see_9, E_X11_see_12, E_X11_see_13, E_X11_see_14, E_X11_see_17, E_X11_see_18, E_X11_see_21, E_X11_see_24, E_X11_see_25, E_X11_see_26, E_X11_see_27, E_X11_see_29, E_X11_see_32, E_X11_see_35, E_X11_see_36, E_X11_see_37, E_X11_see_40, E_X11_see_43, E_X11_see_45, E_X11_see_46, E_X11_see_47, E_X11_see_50, E_X11_see_51, E_X11_see_52, E_X11_see_53, E_X11_see_56, rk_0, rc_83, rg_0_0, hht, hw, b1, c2, c3, xm, gb_0, gb_1, g1_0, List.map_nil, List.map_cons, List.sum_cons, List.sum_nil, gcat_i, gcat_r, gcat_l, Nat.reduceAdd, Nat.reduceLeDiff, Nat.zero_le, Option.toList, List.cons_append, List.nil_append, gnk_i, gnk_r, gnk_n, gi_1, Nat.reduceLT, if_true, if_false]
        refine ⟨s, rfl, ?_⟩
        simp only [E_X12_see_0, E_X12_see_1, E_X12_see_2, E_X12_see_5, E_X12_see_6, E_X12_see_7, E_X12_see_10, E_X12_see_11, E_X12_see_12, E_X12_see_13, E_X12_see_14, E_X12_see_17, E_X12_see_20, E_X12_see_21, E_X12_see_22, E_X12_see_23, E_X12_see_24, E_X12_see_25, E_X12_see_27, E_X12_see_30, E_X12_see_33, E_X12_see_34, E_X12_see_35, E_X12_see_36, E_X12_see_37, E_X12_see_40, E_X12_see_43, E_X12_see_45, E_X12_see_46, E_X12_see_47, E_X12_see_50, E_X12_see_51, E_X12_see_54, E_X12_see_56, E_X12_see_57, E_X12_see_58, E_X12_see_61, E_X12_see_62, E_X12_see_65, E_X12_see_66, E_X12_see_67, E_X12_see_68, E_X12_see_71, E_X12_see_72, E_X12_see_75, E_X12_see_76, E_X12_see_77, E_X12_see_78, E_X12_see_81, E_X12_see_82, E_X12_see_85, E_X12_see_86, E_X12_see_87, E_X12_see_88, E_X12_see_89, E_X12_see_92, E_X12_see_93, E_X12_see_94, E_X12_see_97, E_X12_see_98, E_X12_see_101, rc_137, hic0, hin, b1, c2, c3, xm, gb_0, gb_1, g1_0, List.map_nil, List.map_cons, List.sum_cons, List.sum_nil, gcat_i, gcat_r, gcat_l, Nat.reduceAdd, Nat.reduceLeDiff, Nat.zero_le, Option.toList, List.cons_append, List.nil_append, gnk_i, gnk_r, gnk_n, gi_1, Nat.reduceLT, if_true, if_false]
        exact ⟨s, rfl, (by first | exact trivial | rfl), ⟨_, rfl⟩, h0⟩
      · simp only [E_X11_see_0, E_X11_see_1, E_X11_see_2, E_X11_see_5, E_X11_see_6, E_X11_see_9, E_X11_see_12, E_X11_see_13, E_X11_see_14, E_X11_see_17, E_X11_see_18, E_X11_see_21, E_X11_see_24, E_X11_see_25, E_X11_see_26, E_X11_see_27, E_X11_see_29, E_X11_see_32, E_X11_see_35, E_X11_see_36, E_X11_see_37, E_X11_see_40, E_X11_see_43, E_X11_see_45, E_X11_see_46, E_X11_see_47, E_X11_see_50, E_X11_see_51, E_X11_see_52, E_X11_see_53, E_X11_see_56, rk_0, rc_83, rg_0_0, hht, hw, b1, c2, c3, xm, gb_0, gb_1, g1_0, List.map_nil, List.map_cons, List.sum_cons, List.sum_nil, gcat_i, gcat_r, gcat_l, Nat.reduceAdd, Nat.reduceLeDiff, Nat.zero_le, Option.toList, List.cons_append, List.nil_append, gnk_i, gnk_r, gnk_n, gi_1, Nat.reduceLT, if_true, if_false]
        refine ⟨s, rfl, ?_⟩
        simp only [E_X12_see_0, E_X12_see_1, E_X12_see_2, E_X12_see_5, E_X12_see_6, E_X12_see_7, E_X12_see_10, E_X12_see_11, E_X12_see_12, E_X12_see_13, E_X12_see_14, E_X12_see_17, E_X12_see_20, E_X12_see_21, E_X12_see_22, E_X12_see_23, E_X12_see_24, E_X12_see_25, E_X12_see_27, E_X12_see_30, E_X12_see_33, E_X12_see_34, E_X12_see_35, E_X12_see_36, E_X12_see_37, E_X12_see_40, E_X12_see_43, E_X12_see_45, E_X12_see_46, E_X12_see_47, E_X12_see_50, E_X12_see_51, E_X12_see_54, E_X12_see_56, E_X12_see_57, E_X12_see_58, E_X12_see_61, E_X12_see_62, E_X12_see_65, E_X12_see_66, E_X12_see_67, E_X12_see_68, E_X12_see_71, E_X12_see_72, E_X12_see_75, E_X12_see_76, E_X12_see_77, E_X12_see_78, E_X12_see_81, E_X12_see_82, E_X12_see_85, E_X12_see_86, E_X12_see_87, E_X12_see_88, E_X12_see_89, E_X12_see_92, E_X12_see_93, E_X12_see_94, E_X12_see_97, E_X12_see_98, E_X12_see_101, rc_137, hic0, hin, b1, c2, c3, xm, gb_0, gb_1, g1_0, List.map_nil, List.map_cons, List.sum_cons, List.sum_nil, gcat_i, gcat_r, gcat_l, Nat.reduceAdd, Nat.reduceLeDiff, Nat.zero_le, Option.toList, List.cons_append, List.nil_append, gnk_i, gnk_r, gnk_n, gi_1, Nat.reduceLT, if_true, if_false]
        exact ⟨s, rfl, (by first | exact trivial | rfl), ⟨_, rfl⟩, h0⟩
      · exact absurd ⟨c2, c3⟩ b2
end
