/-! both sides: wind, send, row, pass -/
theorem gA_set_o {p : gA} {i j a b : Nat} {x : Int32} (h : a ≠ i) : (gA_set p i j x).2.1 a b = p.2.1 a b := by rw [gA_set_at, if_neg (fun e => h e.1)]
theorem gA_all_set {p : gA} {cs : List fC} {i j : Nat} {x : Int32} (h : gA_all p cs) (hi : i = 1 ∨ (6 ≤ i ∧ i < 12)) : gA_all (gA_set p i j x) cs := by
  obtain ⟨h1, ⟨a1, a2, a3⟩, h3, h4, h5, h6, h7, h8, h9⟩ := h
  refine ⟨gA_ok_set h1 (by omega), ⟨?_, fun t ht hs => ?_, fun c hc => ?_⟩, fun t ht => ?_, fun t ht => ?_, h5, h6, h7, ?_, ?_⟩
  · rw [gA_set_o (by omega)]
    exact a1
  · rw [gA_set_o (by omega)] at hs ⊢
    exact a2 t ht hs
  · rw [gA_set_o (by omega)]
    exact a3 c hc
  · rw [gA_set_o (by omega)]
    exact h3 t ht
  · rw [gA_set_o (by omega)]
    exact h4 t ht
  · rw [gA_set_o (by omega)]
    exact h8
  · rw [gA_set_o (by omega)]
    exact h9
theorem gA_all_send {p : gA} {cs : List fC} {t : Nat} {x : Int32} (h : gA_all p cs) (hx : x = -1 ∨ ∃ c, c < p.1.2.1 ∧ x = nI c) : gA_all (gA_set p 13 t x) cs := by
  obtain ⟨h1, h2, h3, h4, h5, h6, h7, h8, h9⟩ := h
  refine ⟨gA_ok_set h1 (by omega), gA_k2_set h2 (by omega), fun u hu => ?_, fun u hu => ?_, h5, h6, h7, ?_, ?_⟩
  · by_cases e : u = t
    · rw [gA_set_at, if_pos ⟨rfl, e⟩]
      exact hx
    · rw [gA_set_at, if_neg (fun q => e q.2)]
      exact h3 u hu
  · rw [gA_set_o (by omega)]
    exact h4 u hu
  · rw [gA_set_o (by omega)]
    exact h8
  · rw [gA_set_o (by omega)]
    exact h9
/-- hours leave what is told -/
def gA_kp2 (p q : gA) : Prop := q.2.2 = p.2.2 ∧ ∀ o j, o ≠ 4 → o ≠ 14 → o ≠ 15 → o ≠ 16 → q.2.1 o j = p.2.1 o j
theorem gA_kp2_rf {p : gA} : gA_kp2 p p := ⟨rfl, fun _ _ _ _ _ _ => rfl⟩
theorem gA_kp2_tr {p q r : gA} (h : gA_kp2 p q) (h2 : gA_kp2 q r) : gA_kp2 p r := ⟨h2.1.trans h.1, fun o j a b c d => (h2.2 o j a b c d).trans (h.2 o j a b c d)⟩
theorem gA_kp2_set {p : gA} {i j : Nat} {x : Int32} (h : i = 4 ∨ i = 14 ∨ i = 15 ∨ i = 16) : gA_kp2 p (gA_set p i j x) := ⟨rfl, fun o k _ _ _ _ => gA_set_o (by omega)⟩
theorem gA_kp2_land {p : gA} {c t : Nat} : gA_kp2 p (gA_land p c t) := by
  unfold gA_land
  split
  · split
    · exact gA_kp2_rf
    · exact gA_kp2_tr (gA_kp2_set (by omega)) (gA_kp2_set (by omega))
  · exact gA_kp2_set (by omega)
theorem gA_kp2_fresh {p : gA} {t : Nat} {x : Int32} : gA_kp2 p (gA_fresh p t x) := gA_kp2_tr (gA_kp2_tr (gA_kp2_set (by omega)) (gA_kp2_set (by omega))) (gA_kp2_set (by omega))
theorem gA_kp2_hangN {p : gA} {c : Nat} : ∀ {n t : Nat}, gA_kp2 p (gA_hangN p c n t)
  | 0, _ => gA_kp2_rf
  | n + 1, t => by
    unfold gA_hangN
    split
    · exact gA_kp2_fresh
    · exact gA_kp2_hangN
theorem gA_kp2_crane {p : gA} {c : Nat} : gA_kp2 p (gA_crane p c) := by
  unfold gA_crane
  split
  · exact gA_kp2_tr (gA_kp2_tr (gA_kp2_set (by omega)) (gA_kp2_set (by omega))) gA_kp2_land
  · exact gA_kp2_hangN
theorem gA_kp2_cranes : ∀ {n c : Nat} {p : gA}, gA_kp2 p (gA_cranes n c p)
  | 0, _, _ => gA_kp2_rf
  | n + 1, c, p => by
    unfold gA_cranes
    exact gA_kp2_tr gA_kp2_crane gA_kp2_cranes
theorem gA_kp2_go : ∀ {n : Nat} {p : gA}, gA_kp2 p (gA_go n p)
  | 0, _ => gA_kp2_rf
  | n + 1, p => by
    unfold gA_go
    have e : gA_kp2 p (gA_hour p) := ⟨(gA_kp2_cranes (n := p.1.2.1) (c := 0) (p := p)).1, (gA_kp2_cranes (n := p.1.2.1) (c := 0) (p := p)).2⟩
    exact gA_kp2_tr e gA_kp2_go
theorem gA_all_go {p : gA} {cs : List fC} {n : Nat} (h : gA_all p cs) (hn : p.1.1 + n ≤ 9999) : gA_all (gA_go n p) cs := by
  obtain ⟨h1, h2, h3, h4, h5, h6, h7, h8, h9⟩ := h
  have gn : (gA_go n p).1 = (p.1.1 + n, p.1.2) := gA_go_n
  obtain ⟨k1, k2⟩ := gA_kp2_go (n := n) (p := p)
  refine ⟨gA_go_ok h1 (by omega), gA_k2_go h2, fun t ht => ?_, fun t ht => ?_, h5, by rw [gn]; exact hn, fun fx => by rw [k1]; exact h7 fx, ?_, ?_⟩
  · rw [k2 13 t (by omega) (by omega) (by omega) (by omega), gn]
    rw [gn] at ht
    exact h3 t ht
  · rw [k2 12 t (by omega) (by omega) (by omega) (by omega)]
    rw [gn] at ht
    exact h4 t ht
  · rw [k2 17 0 (by omega) (by omega) (by omega) (by omega)]
    exact h8
  · rw [k2 17 1 (by omega) (by omega) (by omega) (by omega)]
    exact h9
/-- a number of a told one -/
theorem mY_row {K : Int32} {s : gm_S} {o : Option Nat} {cs : List fC} {p : gA} {c k : Nat} {x : Int32} (h : mY K s o cs p) (hc6 : p.1.2.1 ≤ 6) (hcl : c < 6) (hk4 : k < 4) : mY K (gm_si s 142 (4 * c + k) x) o cs (gA_set p (6 + c) k x) := by
  obtain ⟨h1, h2, h3, h4, h5, h6, h7⟩ := h
  obtain ⟨r1, r2, r3, r4, r5, r6⟩ := h1
  refine ⟨⟨?_, ?_, ?_, fun k hk => ?_, fun c1 hc => ⟨?_, ?_, fun k' hk => ?_⟩, fun u hu => ⟨?_, ?_, ?_, ?_, ?_⟩⟩, mFm_fr h2 (fun b j hb hb2 => by rw [gsi_1, if_neg (fun e => by omega)]) (by rw [gsi_1, if_neg (fun e => by omega)]), ?_, fun c' hc => ?_, h5, ?_, ?_⟩
  · rw [gsi_1, if_neg (fun e => by omega)]
    exact r1
  · rw [gsi_1, if_neg (fun e => by omega)]
    exact r2
  · rw [gsi_1, if_neg (fun e => by omega)]
    exact r3
  · rw [gsi_1, if_neg (fun e => by omega), gA_set_o (by omega)]
    exact r4 k hk
  · rw [gsi_1, if_neg (fun e => by omega), gA_set_o (by omega)]
    exact (r5 c1 hc).1
  · rw [gsi_1, if_neg (fun e => by omega), gA_set_o (by omega)]
    exact (r5 c1 hc).2.1
  · rw [gsi_1, gA_set_at]
    by_cases e : 4 * c1 + k' = 4 * c + k
    · rw [if_pos ⟨rfl, e⟩, if_pos ⟨by omega, by omega⟩]
    · rw [if_neg (fun q => e q.2), if_neg (fun q => e (by omega))]
      exact (r5 c1 hc).2.2 k' hk
  · rw [gsi_1, if_neg (fun e => by omega), gA_set_o (by omega)]
    exact (r6 u hu).1
  · rw [gsi_1, if_neg (fun e => by omega), gA_set_o (by omega)]
    exact (r6 u hu).2.1
  · rw [gsi_1, if_neg (fun e => by omega), gA_set_o (by omega)]
    exact (r6 u hu).2.2.1
  · rw [gsi_1, if_neg (fun e => by omega), gA_set_o (by omega)]
    exact (r6 u hu).2.2.2.1
  · rw [gsi_1, if_neg (fun e => by omega), gA_set_o (by omega)]
    exact (r6 u hu).2.2.2.2
  · rw [gsi_1, if_neg (fun e => by omega)]
    exact h3
  · rw [gsi_1, if_neg (fun e => by omega), gA_set_o (by omega)]
    exact h4 c' hc
  · rw [gA_set_o (by omega)]
    exact h6
  · rw [gA_set_o (by omega)]
    exact h7
section
variable {w : Nat × (Nat → Int32)} {s : gm_S} {x y z : Int32}
theorem i_no {c m : Nat} {Lc Lm : gc_L} (h : gInv s) (v : Int32) (e1 : ∀ Q, gc_X w 40 c 0 Lc [] (gm_m s) Q = Q (some (.int v)) (gm_m s)) (e2 : ∀ Q, gc_X w 40 m 0 Lm [] (gm_m s) Q = Q (some (.int v)) (gm_m s)) : gBoth w c m Lc Lm s := by
  unfold gBoth
  rw [e1]
  refine ⟨s, rfl, ?_⟩
  rw [e2]
  exact ⟨s, rfl, rfl, ⟨_, rfl⟩, h⟩
/-- pY of what a yard's writes write -/
theorem pY_F {s s' : gm_S} (h : gy_FR 83 s s') : gAg pY s s' := ⟨h.1, fun b j q => h.2 b j (by unfold pY at q; omega)⟩
theorem i_wind (h : gInv s) : gBoth w 71 121 [some (.ref 0), some (.int x), some (.int y), none] [some (.ref 137), some (.int x), some (.int y), none] s := by
  have h0 := h
  obtain ⟨φ, p, cu, cs, f, l1, l2, l3, h⟩ := gInv_I h
  have hw := fun (a b : Int32) (Q : Option Value → gc_M → Prop) => c_within (w := w) (d := 39) (s := s) (x := a) (y := b) (Q := Q)
  have hin := fun (a b c : Int32) (s : gm_S) (Q : Option Value → gc_M → Prop) => m_in (w := w) (d := 39) (s := s) (x := a) (y := b) (z := c) (Q := Q)
  cases b1 : gB_in x 0 3 with
  | false =>
    refine i_no h0 (-1) (fun Q => ?_) (fun Q => ?_)
    · simp only [E_X11_wind_0, E_X11_wind_1, E_X11_wind_2, E_X11_wind_5, E_X11_wind_8, E_X11_wind_9, E_X11_wind_10, E_X11_wind_11, E_X11_wind_13, E_X11_wind_16, E_X11_wind_19, E_X11_wind_21, E_X11_wind_22, E_X11_wind_23, E_X11_wind_26, E_X11_wind_29, E_X11_wind_30, E_X11_wind_31, E_X11_wind_32, E_X11_wind_33, E_X11_wind_36, E_X11_wind_39, E_X11_wind_40, E_X11_wind_41, E_X11_wind_42, E_X11_wind_43, hw, b1, gb_0, List.map_nil, List.map_cons, List.sum_cons, List.sum_nil, gcat_i, gcat_r, gcat_l, Nat.reduceAdd, Nat.reduceLeDiff, Nat.zero_le, Option.toList, List.cons_append, List.nil_append, gnk_i, gnk_r, gnk_n, gi_1, Nat.reduceLT, if_true, if_false]
    · simp only [E_X12_wind_0, E_X12_wind_1, E_X12_wind_2, E_X12_wind_3, E_X12_wind_4, E_X12_wind_7, E_X12_wind_10, E_X12_wind_11, E_X12_wind_12, E_X12_wind_13, E_X12_wind_14, E_X12_wind_15, E_X12_wind_17, E_X12_wind_20, E_X12_wind_23, E_X12_wind_25, E_X12_wind_26, E_X12_wind_27, E_X12_wind_30, E_X12_wind_31, E_X12_wind_32, E_X12_wind_33, E_X12_wind_34, E_X12_wind_37, E_X12_wind_38, E_X12_wind_39, E_X12_wind_40, E_X12_wind_41, rc_137, hin, b1, gb_0, List.map_nil, List.map_cons, List.sum_cons, List.sum_nil, gcat_i, gcat_r, gcat_l, Nat.reduceAdd, Nat.reduceLeDiff, Nat.zero_le, Option.toList, List.cons_append, List.nil_append, gnk_i, gnk_r, gnk_n, gi_1, Nat.reduceLT, if_true, if_false]
  | true =>
    cases b2 : gB_in y 0 9 with
    | false =>
      refine i_no h0 (-2) (fun Q => ?_) (fun Q => ?_)
      · simp only [E_X11_wind_0, E_X11_wind_1, E_X11_wind_2, E_X11_wind_5, E_X11_wind_8, E_X11_wind_9, E_X11_wind_10, E_X11_wind_11, E_X11_wind_13, E_X11_wind_16, E_X11_wind_19, E_X11_wind_21, E_X11_wind_22, E_X11_wind_23, E_X11_wind_26, E_X11_wind_29, E_X11_wind_30, E_X11_wind_31, E_X11_wind_32, E_X11_wind_33, E_X11_wind_36, E_X11_wind_39, E_X11_wind_40, E_X11_wind_41, E_X11_wind_42, E_X11_wind_43, hw, b1, b2, gb_0, gb_1, g1_0, List.map_nil, List.map_cons, List.sum_cons, List.sum_nil, gcat_i, gcat_r, gcat_l, Nat.reduceAdd, Nat.reduceLeDiff, Nat.zero_le, Option.toList, List.cons_append, List.nil_append, gnk_i, gnk_r, gnk_n, gi_1, Nat.reduceLT, if_true, if_false]
      · simp only [E_X12_wind_0, E_X12_wind_1, E_X12_wind_2, E_X12_wind_3, E_X12_wind_4, E_X12_wind_7, E_X12_wind_10, E_X12_wind_11, E_X12_wind_12, E_X12_wind_13, E_X12_wind_14, E_X12_wind_15, E_X12_wind_17, E_X12_wind_20, E_X12_wind_23, E_X12_wind_25, E_X12_wind_26, E_X12_wind_27, E_X12_wind_30, E_X12_wind_31, E_X12_wind_32, E_X12_wind_33, E_X12_wind_34, E_X12_wind_37, E_X12_wind_38, E_X12_wind_39, E_X12_wind_40, E_X12_wind_41, rc_137, hin, b1, b2, gb_0, gb_1, g1_0, List.map_nil, List.map_cons, List.sum_cons, List.sum_nil, gcat_i, gcat_r, gcat_l, Nat.reduceAdd, Nat.reduceLeDiff, Nat.zero_le, Option.toList, List.cons_append, List.nil_append, gnk_i, gnk_r, gnk_n, gi_1, Nat.reduceLT, if_true, if_false]
    | true =>
      obtain ⟨k, hk3, e1⟩ := gB_in_ex (k := 3) b1 (by decide)
      subst e1
      have i1 : vp_in (nI k) 4 := vp_in_nI (by omega) (by omega)
      have i2 : (nI k).toNatClampNeg = k := nI_clamp (by omega)
      have hR := gI_R h
      have a1 : s.1 84 k = p.2.1 1 k := hR.2.2.2.2.2.2.2.1 1 k (Or.inl ⟨rfl, by omega⟩)
      unfold gBoth
      simp only [E_X11_wind_0, E_X11_wind_1, E_X11_wind_2, E_X11_wind_5, E_X11_wind_8, E_X11_wind_9, E_X11_wind_10, E_X11_wind_11, E_X11_wind_13, E_X11_wind_16, E_X11_wind_19, E_X11_wind_21, E_X11_wind_22, E_X11_wind_23, E_X11_wind_26, E_X11_wind_29, E_X11_wind_30, E_X11_wind_31, E_X11_wind_32, E_X11_wind_33, E_X11_wind_36, E_X11_wind_39, E_X11_wind_40, E_X11_wind_41, E_X11_wind_42, E_X11_wind_43, rk_0, rk_83, rg_0_0, rg_83_3, ra_84, rv_84, rs_84, i1, i2, a1, hw, b1, b2, gb_1, g1_0, List.map_nil, List.map_cons, List.sum_cons, List.sum_nil, gcat_i, gcat_r, gcat_l, Nat.reduceAdd, Nat.reduceLeDiff, Nat.zero_le, Option.toList, List.cons_append, List.nil_append, gnk_i, gnk_r, gnk_n, gi_1, Nat.reduceLT, if_true, if_false]
      refine ⟨_, rfl, ?_⟩
      have m1 := (gI_mR h).2.2.2.1 k (by omega)
      simp only [E_X12_wind_0, E_X12_wind_1, E_X12_wind_2, E_X12_wind_3, E_X12_wind_4, E_X12_wind_7, E_X12_wind_10, E_X12_wind_11, E_X12_wind_12, E_X12_wind_13, E_X12_wind_14, E_X12_wind_15, E_X12_wind_17, E_X12_wind_20, E_X12_wind_23, E_X12_wind_25, E_X12_wind_26, E_X12_wind_27, E_X12_wind_30, E_X12_wind_31, E_X12_wind_32, E_X12_wind_33, E_X12_wind_34, E_X12_wind_37, E_X12_wind_38, E_X12_wind_39, E_X12_wind_40, E_X12_wind_41, rk_137, rc_137, rg_137_3, ra_138, rv_138, rs_138, i1, i2, m1, hin, b1, b2, gb_1, g1_0, gsi_1, Nat.reduceEqDiff, false_and, List.map_nil, List.map_cons, List.sum_cons, List.sum_nil, gcat_i, gcat_r, gcat_l, Nat.reduceAdd, Nat.reduceLeDiff, Nat.zero_le, Option.toList, List.cons_append, List.nil_append, gnk_i, gnk_r, gnk_n, gi_1, Nat.reduceLT, if_true, if_false]
      have hR1 := gR_set (o := 1) (j := k) (x := y) hR (by decide) (by decide)
      have hA1 : gAg pY s (gm_si s 84 k y) := gAg_si gAg_refl (by unfold pY; omega)
      have hmY : mY 9999 (gm_si s 84 k y) cu cs p := mY_cg h.2.1.2.2.2 (gI_ok h) (fun b j q => by rw [gsi_1, if_neg (fun e => by omega)])
      have hf := kCu_f h.2.1.1 h.1.2.2.1
      exact ⟨_, rfl, (by first | exact trivial | rfl), ⟨_, rfl⟩, gI_Y (p' := gA_set p 1 k y) h (gAg_si hA1 (by unfold pY; omega)) (Nat.le_refl _) (gA_all_set h.2.1.2.1 (by omega)) (gR_cg hR1 (gI_ok h).1 rfl (fun b j q => by rw [gsi_1, if_neg (fun e => by omega)])) (mY_set13 (i := 1) hmY (by omega) (gI_ok h).1)⟩
theorem i_send (h : gInv s) : gBoth w 70 120 [some (.ref 0), some (.int x), some (.int y), none] [some (.ref 137), some (.int x), some (.int y), none] s := by
  have h0 := h
  obtain ⟨φ, p, cu, cs, f, l1, l2, l3, h⟩ := gInv_I h
  have hk := gI_ok h
  have k6 := hk.1
  have k8 := hk.2.1
  have hR := gI_R h
  have hht := fun (z : Int32) (Q : Option Value → gc_M → Prop) => gy_hasThing (w := w) (d := 39) (x := z) (Q := Q) hR
  have hhc := fun (z : Int32) (Q : Option Value → gc_M → Prop) => gy_hasCrane (w := w) (d := 39) (x := z) (Q := Q) hR
  have mit := fun (s' : gm_S) (hR : mR s' p) (a : Int32) (Q : Option Value → gc_M → Prop) => m_isThing (w := w) (d := 38) (x := a) (Q := Q) hR hk
  have mic := fun (s' : gm_S) (hR : mR s' p) (a : Int32) (Q : Option Value → gc_M → Prop) => m_isCrane (w := w) (d := 38) (x := a) (Q := Q) hR hk
  have mt0 := mit s (gI_mR h)
  have mc0 := mic s (gI_mR h)
  cases b1 : gA_of p.1.2.2 x with
  | false =>
    refine i_no h0 (-1) (fun Q => ?_) (fun Q => ?_)
    · simp only [E_X11_send_0, E_X11_send_1, E_X11_send_4, E_X11_send_5, E_X11_send_8, E_X11_send_11, E_X11_send_12, E_X11_send_13, E_X11_send_14, E_X11_send_15, E_X11_send_18, E_X11_send_19, E_X11_send_22, E_X11_send_23, E_X11_send_26, E_X11_send_29, E_X11_send_30, E_X11_send_31, E_X11_send_32, E_X11_send_35, E_X11_send_38, E_X11_send_39, E_X11_send_40, E_X11_send_43, E_X11_send_45, E_X11_send_46, E_X11_send_47, E_X11_send_50, E_X11_send_53, E_X11_send_54, E_X11_send_55, E_X11_send_56, E_X11_send_57, E_X11_send_60, E_X11_send_63, E_X11_send_64, E_X11_send_65, E_X11_send_66, E_X11_send_67, E_X11_send_70, rk_0, rc_83, rg_0_0, hht, b1, gb_0, List.map_nil, List.map_cons, List.sum_cons, List.sum_nil, gcat_i, gcat_r, gcat_l, Nat.reduceAdd, Nat.reduceLeDiff, Nat.zero_le, Option.toList, List.cons_append, List.nil_append, gnk_i, gnk_r, gnk_n, gi_1, Nat.reduceLT, if_true, if_false]
    · simp only [E_X12_send_0, E_X12_send_1, E_X12_send_2, E_X12_send_5, E_X12_send_8, E_X12_send_9, E_X12_send_10, E_X12_send_13, E_X12_send_14, E_X12_send_15, E_X12_send_18, E_X12_send_21, E_X12_send_22, E_X12_send_23, E_X12_send_24, E_X12_send_27, E_X12_send_28, E_X12_send_29, E_X12_send_32, E_X12_send_34, E_X12_send_35, E_X12_send_36, E_X12_send_39, E_X12_send_40, E_X12_send_41, E_X12_send_42, E_X12_send_43, E_X12_send_46, E_X12_send_47, E_X12_send_48, E_X12_send_51, E_X12_send_53, E_X12_send_56, E_X12_send_57, E_X12_send_58, E_X12_send_59, rc_137, mt0, b1, gb_0, List.map_nil, List.map_cons, List.sum_cons, List.sum_nil, gcat_i, gcat_r, gcat_l, Nat.reduceAdd, Nat.reduceLeDiff, Nat.zero_le, Option.toList, List.cons_append, List.nil_append, gnk_i, gnk_r, gnk_n, gi_1, Nat.reduceLT, if_true, if_false]
  | true =>
    by_cases hy : y ≠ -1 ∧ gA_of p.1.2.1 y = false
    · obtain ⟨y1, b2⟩ := hy
      refine i_no h0 (-1) (fun Q => ?_) (fun Q => ?_)
      · simp only [E_X11_send_0, E_X11_send_1, E_X11_send_4, E_X11_send_5, E_X11_send_8, E_X11_send_11, E_X11_send_12, E_X11_send_13, E_X11_send_14, E_X11_send_15, E_X11_send_18, E_X11_send_19, E_X11_send_22, E_X11_send_23, E_X11_send_26, E_X11_send_29, E_X11_send_30, E_X11_send_31, E_X11_send_32, E_X11_send_35, E_X11_send_38, E_X11_send_39, E_X11_send_40, E_X11_send_43, E_X11_send_45, E_X11_send_46, E_X11_send_47, E_X11_send_50, E_X11_send_53, E_X11_send_54, E_X11_send_55, E_X11_send_56, E_X11_send_57, E_X11_send_60, E_X11_send_63, E_X11_send_64, E_X11_send_65, E_X11_send_66, E_X11_send_67, E_X11_send_70, rk_0, rc_83, rg_0_0, hht, hhc, b1, b2, y1, gb_0, gb_1, g1_0, List.map_nil, List.map_cons, List.sum_cons, List.sum_nil, gcat_i, gcat_r, gcat_l, Nat.reduceAdd, Nat.reduceLeDiff, Nat.zero_le, Option.toList, List.cons_append, List.nil_append, gnk_i, gnk_r, gnk_n, gi_1, Nat.reduceLT, if_true, if_false]
      · simp only [E_X12_send_0, E_X12_send_1, E_X12_send_2, E_X12_send_5, E_X12_send_8, E_X12_send_9, E_X12_send_10, E_X12_send_13, E_X12_send_14, E_X12_send_15, E_X12_send_18, E_X12_send_21, E_X12_send_22, E_X12_send_23, E_X12_send_24, E_X12_send_27, E_X12_send_28, E_X12_send_29, E_X12_send_32, E_X12_send_34, E_X12_send_35, E_X12_send_36, E_X12_send_39, E_X12_send_40, E_X12_send_41, E_X12_send_42, E_X12_send_43, E_X12_send_46, E_X12_send_47, E_X12_send_48, E_X12_send_51, E_X12_send_53, E_X12_send_56, E_X12_send_57, E_X12_send_58, E_X12_send_59, rc_137, mt0, mc0, b1, b2, y1, gb_0, gb_1, g1_0, List.map_nil, List.map_cons, List.sum_cons, List.sum_nil, gcat_i, gcat_r, gcat_l, Nat.reduceAdd, Nat.reduceLeDiff, Nat.zero_le, Option.toList, List.cons_append, List.nil_append, gnk_i, gnk_r, gnk_n, gi_1, Nat.reduceLT, if_true, if_false]
    have hx : y = -1 ∨ ∃ c, c < p.1.2.1 ∧ y = nI c := by
      by_cases e : y = -1
      · exact Or.inl e
      · cases b2 : gA_of p.1.2.1 y with
        | false => exact absurd ⟨e, b2⟩ hy
        | true => exact Or.inr (gA_of_ex b2 (by omega))
    obtain ⟨t, ht, e1⟩ := gA_of_ex b1 (by omega)
    subst e1
    have i1 : vp_in (nI t) 8 := vp_in_nI (by omega) (by omega)
    have i2 : (nI t).toNatClampNeg = t := nI_clamp (by omega)
    have hA := fun o ho1 ho2 => hR.2.2.2.2.2.2.2.1 o t (Or.inr (Or.inr (Or.inr ⟨ho1, ho2, ht⟩)))
    have a13 : s.1 96 t = p.2.1 13 t := hA 13 (by omega) (by omega)
    have a14 : s.1 97 t = p.2.1 14 t := hA 14 (by omega) (by omega)
    obtain ⟨-, m13, m14, -, -⟩ := (gI_mR h).2.2.2.2.2 t ht
    have c31 : gc_X w 40 70 0 [some (.ref 0), some (.int (nI t)), some (.int y), none] [] (gm_m s) = gc_X w 40 70 31 [some (.ref 0), some (.int (nI t)), some (.int y), none] [] (gm_m s) := by
      funext Q
      rcases hx with e | ⟨c, hc, e⟩
      · simp only [E_X11_send_0, E_X11_send_1, E_X11_send_4, E_X11_send_5, E_X11_send_8, E_X11_send_11, E_X11_send_12, E_X11_send_13, E_X11_send_14, E_X11_send_15, E_X11_send_18, E_X11_send_19, E_X11_send_22, E_X11_send_23, E_X11_send_26, E_X11_send_29, E_X11_send_30, E_X11_send_32, E_X11_send_35, E_X11_send_38, E_X11_send_39, E_X11_send_40, E_X11_send_43, E_X11_send_45, E_X11_send_46, E_X11_send_47, E_X11_send_50, E_X11_send_53, E_X11_send_54, E_X11_send_55, E_X11_send_56, E_X11_send_57, E_X11_send_60, E_X11_send_63, E_X11_send_64, E_X11_send_65, E_X11_send_66, E_X11_send_67, E_X11_send_70, rk_0, rc_83, rg_0_0, hht, b1, e, gb_1, g1_0, List.map_nil, List.map_cons, List.sum_cons, List.sum_nil, gcat_i, gcat_r, gcat_l, Nat.reduceAdd, Nat.reduceLeDiff, Nat.zero_le, Option.toList, List.cons_append, List.nil_append, gnk_i, gnk_r, gnk_n, gi_1, Nat.reduceLT, if_true, if_false]
      · have hn := sn_m1 c (by omega)
        have b2 := gA_of_nI hc (by omega : p.1.2.1 < 2 ^ 31)
        simp only [E_X11_send_0, E_X11_send_1, E_X11_send_4, E_X11_send_5, E_X11_send_8, E_X11_send_11, E_X11_send_12, E_X11_send_13, E_X11_send_14, E_X11_send_15, E_X11_send_18, E_X11_send_19, E_X11_send_22, E_X11_send_23, E_X11_send_26, E_X11_send_29, E_X11_send_30, E_X11_send_32, E_X11_send_35, E_X11_send_38, E_X11_send_39, E_X11_send_40, E_X11_send_43, E_X11_send_45, E_X11_send_46, E_X11_send_47, E_X11_send_50, E_X11_send_53, E_X11_send_54, E_X11_send_55, E_X11_send_56, E_X11_send_57, E_X11_send_60, E_X11_send_63, E_X11_send_64, E_X11_send_65, E_X11_send_66, E_X11_send_67, E_X11_send_70, rk_0, rc_83, rg_0_0, hht, hhc, b1, b2, e, hn, gb_1, g1_0, List.map_nil, List.map_cons, List.sum_cons, List.sum_nil, gcat_i, gcat_r, gcat_l, Nat.reduceAdd, Nat.reduceLeDiff, Nat.zero_le, Option.toList, List.cons_append, List.nil_append, gnk_i, gnk_r, gnk_n, gi_1, Nat.reduceLT, if_true, if_false]
    have m23 : ∀ s', mR s' p → gc_X w 40 120 0 [some (.ref 137), some (.int (nI t)), some (.int y), none] [] (gm_m s') = gc_X w 40 120 23 [some (.ref 137), some (.int (nI t)), some (.int y), none] [] (gm_m s') := by
      intro s' hR'
      have mt1 := mit s' hR'
      have mc1 := mic s' hR'
      funext Q
      rcases hx with e | ⟨c, hc, e⟩
      · simp only [E_X12_send_0, E_X12_send_1, E_X12_send_2, E_X12_send_5, E_X12_send_8, E_X12_send_9, E_X12_send_10, E_X12_send_13, E_X12_send_14, E_X12_send_15, E_X12_send_18, E_X12_send_21, E_X12_send_22, E_X12_send_24, E_X12_send_27, E_X12_send_28, E_X12_send_29, E_X12_send_32, E_X12_send_34, E_X12_send_35, E_X12_send_36, E_X12_send_39, E_X12_send_40, E_X12_send_41, E_X12_send_42, E_X12_send_43, E_X12_send_46, E_X12_send_47, E_X12_send_48, E_X12_send_51, E_X12_send_53, E_X12_send_56, E_X12_send_57, E_X12_send_58, E_X12_send_59, rc_137, mt1, b1, e, gb_1, g1_0, List.map_nil, List.map_cons, List.sum_cons, List.sum_nil, gcat_i, gcat_r, gcat_l, Nat.reduceAdd, Nat.reduceLeDiff, Nat.zero_le, Option.toList, List.cons_append, List.nil_append, gnk_i, gnk_r, gnk_n, gi_1, Nat.reduceLT, if_true, if_false]
      · have hn := sn_m1 c (by omega)
        have b2 := gA_of_nI hc (by omega : p.1.2.1 < 2 ^ 31)
        simp only [E_X12_send_0, E_X12_send_1, E_X12_send_2, E_X12_send_5, E_X12_send_8, E_X12_send_9, E_X12_send_10, E_X12_send_13, E_X12_send_14, E_X12_send_15, E_X12_send_18, E_X12_send_21, E_X12_send_22, E_X12_send_24, E_X12_send_27, E_X12_send_28, E_X12_send_29, E_X12_send_32, E_X12_send_34, E_X12_send_35, E_X12_send_36, E_X12_send_39, E_X12_send_40, E_X12_send_41, E_X12_send_42, E_X12_send_43, E_X12_send_46, E_X12_send_47, E_X12_send_48, E_X12_send_51, E_X12_send_53, E_X12_send_56, E_X12_send_57, E_X12_send_58, E_X12_send_59, rc_137, mt1, mc1, b1, b2, e, hn, gb_1, g1_0, List.map_nil, List.map_cons, List.sum_cons, List.sum_nil, gcat_i, gcat_r, gcat_l, Nat.reduceAdd, Nat.reduceLeDiff, Nat.zero_le, Option.toList, List.cons_append, List.nil_append, gnk_i, gnk_r, gnk_n, gi_1, Nat.reduceLT, if_true, if_false]
    by_cases h14 : p.2.1 14 t = 0
    · unfold gBoth
      rw [c31]
      simp only [E_X11_send_0, E_X11_send_1, E_X11_send_4, E_X11_send_5, E_X11_send_8, E_X11_send_11, E_X11_send_12, E_X11_send_13, E_X11_send_14, E_X11_send_15, E_X11_send_18, E_X11_send_19, E_X11_send_22, E_X11_send_23, E_X11_send_26, E_X11_send_29, E_X11_send_30, E_X11_send_31, E_X11_send_32, E_X11_send_35, E_X11_send_38, E_X11_send_39, E_X11_send_40, E_X11_send_43, E_X11_send_45, E_X11_send_46, E_X11_send_47, E_X11_send_50, E_X11_send_53, E_X11_send_54, E_X11_send_55, E_X11_send_56, E_X11_send_57, E_X11_send_60, E_X11_send_63, E_X11_send_64, E_X11_send_65, E_X11_send_66, E_X11_send_67, E_X11_send_70, rk_0, rk_83, rg_0_0, rg_83_11, rg_83_12, ra_96, rv_96, rs_96, ra_97, rv_97, i1, i2, a13, a14, h14, c_orNot, List.map_nil, List.map_cons, List.sum_cons, List.sum_nil, gcat_i, gcat_r, gcat_l, Nat.reduceAdd, Nat.reduceLeDiff, Nat.zero_le, Option.toList, List.cons_append, List.nil_append, gnk_i, gnk_r, gnk_n, gi_1, Nat.reduceLT, if_true, if_false]
      refine ⟨_, rfl, ?_⟩
      have hmY : mY 9999 (gm_si s 96 t y) cu cs p := mY_cg h.2.1.2.2.2 hk (fun b j q => by rw [gsi_1, if_neg (fun e => by omega)])
      rw [m23 _ hmY.1]
      have hs : gc_X w 40 120 23 [some (.ref 137), some (.int (nI t)), some (.int y), none] [] (gm_m (gm_si s 96 t y)) = (fun Q => Q (some (.int (mS (p.2.1 13 t)))) (gm_m (gm_si (gm_si s 96 t y) 144 t (mS y)))) := by
        funext Q
        rcases hx with e | ⟨c, hc, e⟩
        · have e5 : mS y = -5 := by rw [e]; rfl
          have hneg : ¬ (0 : Int32) ≤ -1 := by decide
          rw [e5, e]
          simp only [E_X12_send_0, E_X12_send_1, E_X12_send_2, E_X12_send_5, E_X12_send_8, E_X12_send_9, E_X12_send_10, E_X12_send_13, E_X12_send_14, E_X12_send_15, E_X12_send_18, E_X12_send_21, E_X12_send_22, E_X12_send_23, E_X12_send_24, E_X12_send_27, E_X12_send_28, E_X12_send_29, E_X12_send_32, E_X12_send_34, E_X12_send_35, E_X12_send_36, E_X12_send_39, E_X12_send_40, E_X12_send_41, E_X12_send_42, E_X12_send_43, E_X12_send_46, E_X12_send_47, E_X12_send_48, E_X12_send_51, E_X12_send_53, E_X12_send_56, E_X12_send_57, E_X12_send_58, E_X12_send_59, rk_137, rg_137_9, rg_137_10, ra_144, rv_144, rs_144, ra_145, rv_145, i1, i2, m13, m14, h14, hneg, gsi_1, Nat.reduceEqDiff, false_and, List.map_nil, List.map_cons, List.sum_cons, List.sum_nil, gcat_i, gcat_r, gcat_l, Nat.reduceAdd, Nat.reduceLeDiff, Nat.zero_le, Option.toList, List.cons_append, List.nil_append, gnk_i, gnk_r, gnk_n, gi_1, Nat.reduceLT, if_true, if_false]
        · have e5 : mS y = nI c := by rw [e]; exact mS_c (by omega)
          have hpos : (0 : Int32) ≤ nI c := nI_pos' (by omega)
          rw [e5, e]
          simp only [E_X12_send_0, E_X12_send_1, E_X12_send_2, E_X12_send_5, E_X12_send_8, E_X12_send_9, E_X12_send_10, E_X12_send_13, E_X12_send_14, E_X12_send_15, E_X12_send_18, E_X12_send_21, E_X12_send_22, E_X12_send_23, E_X12_send_24, E_X12_send_27, E_X12_send_28, E_X12_send_29, E_X12_send_32, E_X12_send_34, E_X12_send_35, E_X12_send_36, E_X12_send_39, E_X12_send_40, E_X12_send_41, E_X12_send_42, E_X12_send_43, E_X12_send_46, E_X12_send_47, E_X12_send_48, E_X12_send_51, E_X12_send_53, E_X12_send_56, E_X12_send_57, E_X12_send_58, E_X12_send_59, rk_137, rg_137_9, rg_137_10, ra_144, rv_144, rs_144, ra_145, rv_145, i1, i2, m13, m14, h14, hpos, gsi_1, Nat.reduceEqDiff, false_and, List.map_nil, List.map_cons, List.sum_cons, List.sum_nil, gcat_i, gcat_r, gcat_l, Nat.reduceAdd, Nat.reduceLeDiff, Nat.zero_le, Option.toList, List.cons_append, List.nil_append, gnk_i, gnk_r, gnk_n, gi_1, Nat.reduceLT, if_true, if_false]
      rw [hs]
      have hR1 := gR_set (o := 13) (j := t) (x := y) hR (by decide) (by decide)
      have hA1 : gAg pY s (gm_si s 96 t y) := gAg_si gAg_refl (by unfold pY; omega)
      have hf := kCu_f h.2.1.1 h.1.2.2.1
      exact ⟨_, rfl, (by first | exact trivial | rfl), ⟨_, rfl⟩, gI_Y (p' := gA_set p 13 t y) h (gAg_si hA1 (by unfold pY; omega)) (Nat.le_refl _) (gA_all_send h.2.1.2.1 hx) (gR_cg hR1 k6 rfl (fun b j q => by rw [gsi_1, if_neg (fun e => by omega)])) (mY_sent hmY hk)⟩
    · refine i_no h0 (-3) (fun Q => ?_) (fun Q => ?_)
      · rw [c31]
        simp only [E_X11_send_0, E_X11_send_1, E_X11_send_4, E_X11_send_5, E_X11_send_8, E_X11_send_11, E_X11_send_12, E_X11_send_13, E_X11_send_14, E_X11_send_15, E_X11_send_18, E_X11_send_19, E_X11_send_22, E_X11_send_23, E_X11_send_26, E_X11_send_29, E_X11_send_30, E_X11_send_31, E_X11_send_32, E_X11_send_35, E_X11_send_38, E_X11_send_39, E_X11_send_40, E_X11_send_43, E_X11_send_45, E_X11_send_46, E_X11_send_47, E_X11_send_50, E_X11_send_53, E_X11_send_54, E_X11_send_55, E_X11_send_56, E_X11_send_57, E_X11_send_60, E_X11_send_63, E_X11_send_64, E_X11_send_65, E_X11_send_66, E_X11_send_67, E_X11_send_70, rk_0, rk_83, rg_0_0, rg_83_12, ra_97, rv_97, i1, i2, a14, h14, List.map_nil, List.map_cons, List.sum_cons, List.sum_nil, gcat_i, gcat_r, gcat_l, Nat.reduceAdd, Nat.reduceLeDiff, Nat.zero_le, Option.toList, List.cons_append, List.nil_append, gnk_i, gnk_r, gnk_n, gi_1, Nat.reduceLT, if_true, if_false]
      · rw [m23 s (gI_mR h)]
        simp only [E_X12_send_0, E_X12_send_1, E_X12_send_2, E_X12_send_5, E_X12_send_8, E_X12_send_9, E_X12_send_10, E_X12_send_13, E_X12_send_14, E_X12_send_15, E_X12_send_18, E_X12_send_21, E_X12_send_22, E_X12_send_23, E_X12_send_24, E_X12_send_27, E_X12_send_28, E_X12_send_29, E_X12_send_32, E_X12_send_34, E_X12_send_35, E_X12_send_36, E_X12_send_39, E_X12_send_40, E_X12_send_41, E_X12_send_42, E_X12_send_43, E_X12_send_46, E_X12_send_47, E_X12_send_48, E_X12_send_51, E_X12_send_53, E_X12_send_56, E_X12_send_57, E_X12_send_58, E_X12_send_59, rk_137, rg_137_10, ra_145, rv_145, i1, i2, m14, h14, List.map_nil, List.map_cons, List.sum_cons, List.sum_nil, gcat_i, gcat_r, gcat_l, Nat.reduceAdd, Nat.reduceLeDiff, Nat.zero_le, Option.toList, List.cons_append, List.nil_append, gnk_i, gnk_r, gnk_n, gi_1, Nat.reduceLT, if_true, if_false]
theorem i_pass (h : gInv s) : gBoth w 76 155 [some (.ref 0), some (.int x)] [some (.ref 137), some (.int x)] s := by
  have h0 := h
  obtain ⟨φ, p, cu, cs, f, l1, l2, l3, h⟩ := gInv_I h
  have hk := gI_ok h
  have hh := gI_hh h
  have hR := gI_R h
  have hw := fun (a b : Int32) (Q : Option Value → gc_M → Prop) => c_within (w := w) (d := 39) (s := s) (x := a) (y := b) (Q := Q)
  have mih := fun (s : gm_S) (a : Int32) (Q : Option Value → gc_M → Prop) => m_isHours (w := w) (d := 38) (s := s) (x := a) (Q := Q)
  cases b1 : gB_in x 0 60 with
  | false =>
    refine i_no h0 (-2) (fun Q => ?_) (fun Q => ?_)
    · simp only [E_X11_pass_0, E_X11_pass_1, E_X11_pass_3, E_X11_pass_6, E_X11_pass_9, E_X11_pass_11, E_X11_pass_12, E_X11_pass_13, E_X11_pass_16, E_X11_pass_19, E_X11_pass_20, E_X11_pass_21, E_X11_pass_24, E_X11_pass_27, E_X11_pass_29, E_X11_pass_30, E_X11_pass_31, E_X11_pass_34, E_X11_pass_35, E_X11_pass_38, E_X11_pass_39, E_X11_pass_42, E_X11_pass_45, hw, b1, gb_0, List.map_nil, List.map_cons, List.sum_cons, List.sum_nil, gcat_i, gcat_r, gcat_l, Nat.reduceAdd, Nat.reduceLeDiff, Nat.zero_le, Option.toList, List.cons_append, List.nil_append, gnk_i, gnk_r, gnk_n, gi_1, Nat.reduceLT, if_true, if_false]
    · simp only [E_X12_pass_0, E_X12_pass_1, E_X12_pass_2, E_X12_pass_5, E_X12_pass_8, E_X12_pass_10, E_X12_pass_11, E_X12_pass_12, E_X12_pass_15, E_X12_pass_16, E_X12_pass_17, E_X12_pass_20, E_X12_pass_23, E_X12_pass_25, E_X12_pass_26, E_X12_pass_27, E_X12_pass_28, E_X12_pass_31, E_X12_pass_32, E_X12_pass_35, rc_137, mih, b1, gb_0, List.map_nil, List.map_cons, List.sum_cons, List.sum_nil, gcat_i, gcat_r, gcat_l, Nat.reduceAdd, Nat.reduceLeDiff, Nat.zero_le, Option.toList, List.cons_append, List.nil_append, gnk_i, gnk_r, gnk_n, gi_1, Nat.reduceLT, if_true, if_false]
  | true =>
    obtain ⟨k, hk60, e1⟩ := gB_in_ex (k := 60) b1 (by decide)
    subst e1
    have c2 : s.1 83 2 = nI p.1.1 := hR.2.2.2.2.1
    have m2 := (gI_mR h).2.2.1
    have ea : nI p.1.1 + nI k = nI (p.1.1 + k) := nI_add _ _
    by_cases h9 : p.1.1 + k ≤ 9999
    · have hle : nI (p.1.1 + k) ≤ 9999 := nI_le (b := 9999) h9 (by omega)
      unfold gBoth
      simp only [E_X11_pass_0, E_X11_pass_1, E_X11_pass_3, E_X11_pass_6, E_X11_pass_9, E_X11_pass_11, E_X11_pass_12, E_X11_pass_13, E_X11_pass_16, E_X11_pass_19, E_X11_pass_20, E_X11_pass_21, E_X11_pass_24, E_X11_pass_27, E_X11_pass_29, E_X11_pass_30, E_X11_pass_31, E_X11_pass_34, E_X11_pass_35, E_X11_pass_38, E_X11_pass_39, E_X11_pass_42, E_X11_pass_45, rk_0, rk_83, rc_83, rg_0_0, rg_83_2, c2, ea, hle, hw, b1, gb_1, g1_0, List.map_nil, List.map_cons, List.sum_cons, List.sum_nil, gcat_i, gcat_r, gcat_l, Nat.reduceAdd, Nat.reduceLeDiff, Nat.zero_le, Option.toList, List.cons_append, List.nil_append, gnk_i, gnk_r, gnk_n, gi_1, Nat.reduceLT, if_true, if_false]
      refine gy_go hR hk (by omega) (fun s1 hF hR1 => ?_)
      have gn : (gA_go k p).1 = (p.1.1 + k, p.1.2) := gA_go_n
      have c3 : s1.1 83 2 = nI (p.1.1 + k) := by rw [hR1.2.2.2.2.1, gn]
      simp only [E_X11_pass_0, E_X11_pass_1, E_X11_pass_3, E_X11_pass_6, E_X11_pass_9, E_X11_pass_11, E_X11_pass_12, E_X11_pass_13, E_X11_pass_16, E_X11_pass_19, E_X11_pass_20, E_X11_pass_21, E_X11_pass_24, E_X11_pass_27, E_X11_pass_29, E_X11_pass_30, E_X11_pass_31, E_X11_pass_34, E_X11_pass_35, E_X11_pass_38, E_X11_pass_39, E_X11_pass_42, E_X11_pass_45, rk_0, rk_83, rg_0_0, rg_83_2, c3, List.map_nil, List.map_cons, List.sum_cons, List.sum_nil, gcat_i, gcat_r, gcat_l, Nat.reduceAdd, Nat.reduceLeDiff, Nat.zero_le, Option.toList, List.cons_append, List.nil_append, gnk_i, gnk_r, gnk_n, gi_1, Nat.reduceLT, if_true, if_false]
      refine ⟨s1, rfl, ?_⟩
      have hmY : mY 9999 s1 cu cs p := mY_cg h.2.1.2.2.2 hk (fun b j q => hF.2 b j (by omega))
      have m3 := hmY.1.2.2.1
      simp only [E_X12_pass_0, E_X12_pass_1, E_X12_pass_2, E_X12_pass_5, E_X12_pass_8, E_X12_pass_10, E_X12_pass_11, E_X12_pass_12, E_X12_pass_15, E_X12_pass_16, E_X12_pass_17, E_X12_pass_20, E_X12_pass_23, E_X12_pass_25, E_X12_pass_26, E_X12_pass_27, E_X12_pass_28, E_X12_pass_31, E_X12_pass_32, E_X12_pass_35, rk_137, rc_137, rg_137_2, m3, ea, hle, mih, b1, gb_1, g1_0, List.map_nil, List.map_cons, List.sum_cons, List.sum_nil, gcat_i, gcat_r, gcat_l, Nat.reduceAdd, Nat.reduceLeDiff, Nat.zero_le, Option.toList, List.cons_append, List.nil_append, gnk_i, gnk_r, gnk_n, gi_1, Nat.reduceLT, if_true, if_false]
      refine m_go (gI_cs h) hk (gI_k2 h) (by omega) hmY (fun s2 hG hY2 => ?_)
      have m4 : s2.1 137 2 = nI (p.1.1 + k) := by rw [hY2.1.2.2.1, gn]
      simp only [E_X12_pass_0, E_X12_pass_1, E_X12_pass_2, E_X12_pass_5, E_X12_pass_8, E_X12_pass_10, E_X12_pass_11, E_X12_pass_12, E_X12_pass_15, E_X12_pass_16, E_X12_pass_17, E_X12_pass_20, E_X12_pass_23, E_X12_pass_25, E_X12_pass_26, E_X12_pass_27, E_X12_pass_28, E_X12_pass_31, E_X12_pass_32, E_X12_pass_35, rk_137, rg_137_2, m4, List.map_nil, List.map_cons, List.sum_cons, List.sum_nil, gcat_i, gcat_r, gcat_l, Nat.reduceAdd, Nat.reduceLeDiff, Nat.zero_le, Option.toList, List.cons_append, List.nil_append, gnk_i, gnk_r, gnk_n, gi_1, Nat.reduceLT, if_true, if_false]
      have hf := kCu_f h.2.1.1 h.1.2.2.1
      have hGp : gAg pY s1 s2 := ⟨hG.1, fun b j q => hG.2 b j (by unfold pY at q; omega) (by unfold pY at q; omega) (by unfold pY at q; omega) (by unfold pY at q; omega) (by unfold pY at q; omega) (by unfold pY at q; omega)⟩
      exact ⟨s2, rfl, (by first | exact trivial | rfl), ⟨_, rfl⟩, gI_Y (p' := gA_go k p) h (gAg_tr (pY_F hF) hGp) (by rw [gn]; exact Nat.le_refl _) (gA_all_go h.2.1.2.1 h9) (gR_cg hR1 (by rw [gn]; exact hk.1) (by rw [hG.1]) (fun b j q => hG.2 b j (by omega) (by omega) (by omega) (by omega) (by omega) (by omega))) hY2⟩
    · have hle : ¬ nI (p.1.1 + k) ≤ 9999 := nI_ge (a := 9999) (by omega) (by omega)
      refine i_no h0 (-3) (fun Q => ?_) (fun Q => ?_)
      · simp only [E_X11_pass_0, E_X11_pass_1, E_X11_pass_3, E_X11_pass_6, E_X11_pass_9, E_X11_pass_11, E_X11_pass_12, E_X11_pass_13, E_X11_pass_16, E_X11_pass_19, E_X11_pass_20, E_X11_pass_21, E_X11_pass_24, E_X11_pass_27, E_X11_pass_29, E_X11_pass_30, E_X11_pass_31, E_X11_pass_34, E_X11_pass_35, E_X11_pass_38, E_X11_pass_39, E_X11_pass_42, E_X11_pass_45, rk_0, rk_83, rg_0_0, rg_83_2, c2, ea, hle, hw, b1, gb_1, g1_0, List.map_nil, List.map_cons, List.sum_cons, List.sum_nil, gcat_i, gcat_r, gcat_l, Nat.reduceAdd, Nat.reduceLeDiff, Nat.zero_le, Option.toList, List.cons_append, List.nil_append, gnk_i, gnk_r, gnk_n, gi_1, Nat.reduceLT, if_true, if_false]
      · simp only [E_X12_pass_0, E_X12_pass_1, E_X12_pass_2, E_X12_pass_5, E_X12_pass_8, E_X12_pass_10, E_X12_pass_11, E_X12_pass_12, E_X12_pass_15, E_X12_pass_16, E_X12_pass_17, E_X12_pass_20, E_X12_pass_23, E_X12_pass_25, E_X12_pass_26, E_X12_pass_27, E_X12_pass_28, E_X12_pass_31, E_X12_pass_32, E_X12_pass_35, rk_137, rc_137, rg_137_2, m2, ea, hle, mih, b1, gb_1, g1_0, List.map_nil, List.map_cons, List.sum_cons, List.sum_nil, gcat_i, gcat_r, gcat_l, Nat.reduceAdd, Nat.reduceLeDiff, Nat.zero_le, Option.toList, List.cons_append, List.nil_append, gnk_i, gnk_r, gnk_n, gi_1, Nat.reduceLT, if_true, if_false]
theorem i_row (h : gInv s) : gBoth w 72 122 [some (.ref 0), some (.int x), some (.int y), some (.int z), none] [some (.ref 137), some (.int x), some (.int y), some (.int z), none] s := by
  have h0 := h
  obtain ⟨φ, p, cu, cs, f, l1, l2, l3, h⟩ := gInv_I h
  have hk := gI_ok h
  have k6 := hk.1
  have hR := gI_R h
  have hw := fun (a b : Int32) (Q : Option Value → gc_M → Prop) => c_within (w := w) (d := 39) (s := s) (x := a) (y := b) (Q := Q)
  have hhc := fun (z : Int32) (Q : Option Value → gc_M → Prop) => gy_hasCrane (w := w) (d := 39) (x := z) (Q := Q) hR
  have hin := fun (a b c : Int32) (s : gm_S) (Q : Option Value → gc_M → Prop) => m_in (w := w) (d := 39) (s := s) (x := a) (y := b) (z := c) (Q := Q)
  have mic := fun (s' : gm_S) (hR : mR s' p) (a : Int32) (Q : Option Value → gc_M → Prop) => m_isCrane (w := w) (d := 38) (x := a) (Q := Q) hR hk
  have mc0 := mic s (gI_mR h)
  cases b1 : gA_of p.1.2.1 x with
  | false =>
    refine i_no h0 (-1) (fun Q => ?_) (fun Q => ?_)
    · simp only [E_X11_row_0, E_X11_row_1, E_X11_row_4, E_X11_row_5, E_X11_row_8, E_X11_row_11, E_X11_row_12, E_X11_row_13, E_X11_row_16, E_X11_row_19, E_X11_row_20, E_X11_row_21, E_X11_row_22, E_X11_row_24, E_X11_row_27, E_X11_row_30, E_X11_row_32, E_X11_row_33, E_X11_row_34, E_X11_row_37, E_X11_row_40, E_X11_row_41, E_X11_row_42, E_X11_row_44, E_X11_row_47, E_X11_row_49, E_X11_row_50, E_X11_row_51, E_X11_row_54, E_X11_row_57, E_X11_row_58, E_X11_row_59, E_X11_row_60, E_X11_row_61, E_X11_row_63, E_X11_row_64, E_X11_row_67, E_X11_row_70, E_X11_row_71, E_X11_row_72, E_X11_row_73, E_X11_row_74, E_X11_row_75, E_X11_row_77, rk_0, rc_83, rg_0_0, hhc, b1, gb_0, List.map_nil, List.map_cons, List.sum_cons, List.sum_nil, gcat_i, gcat_r, gcat_l, Nat.reduceAdd, Nat.reduceLeDiff, Nat.zero_le, Option.toList, List.cons_append, List.nil_append, gnk_i, gnk_r, gnk_n, gi_1, Nat.reduceLT, if_true, if_false]
    · simp only [E_X12_row_0, E_X12_row_1, E_X12_row_2, E_X12_row_5, E_X12_row_8, E_X12_row_9, E_X12_row_10, E_X12_row_11, E_X12_row_12, E_X12_row_15, E_X12_row_18, E_X12_row_19, E_X12_row_20, E_X12_row_21, E_X12_row_22, E_X12_row_23, E_X12_row_25, E_X12_row_28, E_X12_row_31, E_X12_row_33, E_X12_row_34, E_X12_row_35, E_X12_row_38, E_X12_row_39, E_X12_row_40, E_X12_row_42, E_X12_row_45, E_X12_row_47, E_X12_row_48, E_X12_row_49, E_X12_row_52, E_X12_row_53, E_X12_row_54, E_X12_row_55, E_X12_row_56, E_X12_row_57, E_X12_row_58, E_X12_row_60, E_X12_row_61, E_X12_row_64, E_X12_row_65, E_X12_row_66, E_X12_row_67, E_X12_row_68, E_X12_row_69, E_X12_row_70, E_X12_row_71, E_X12_row_73, rc_137, mc0, b1, gb_0, List.map_nil, List.map_cons, List.sum_cons, List.sum_nil, gcat_i, gcat_r, gcat_l, Nat.reduceAdd, Nat.reduceLeDiff, Nat.zero_le, Option.toList, List.cons_append, List.nil_append, gnk_i, gnk_r, gnk_n, gi_1, Nat.reduceLT, if_true, if_false]
  | true =>
    cases b2 : gB_in y 0 3 with
    | false =>
      refine i_no h0 (-1) (fun Q => ?_) (fun Q => ?_)
      · simp only [E_X11_row_0, E_X11_row_1, E_X11_row_4, E_X11_row_5, E_X11_row_8, E_X11_row_11, E_X11_row_12, E_X11_row_13, E_X11_row_16, E_X11_row_19, E_X11_row_20, E_X11_row_21, E_X11_row_22, E_X11_row_24, E_X11_row_27, E_X11_row_30, E_X11_row_32, E_X11_row_33, E_X11_row_34, E_X11_row_37, E_X11_row_40, E_X11_row_41, E_X11_row_42, E_X11_row_44, E_X11_row_47, E_X11_row_49, E_X11_row_50, E_X11_row_51, E_X11_row_54, E_X11_row_57, E_X11_row_58, E_X11_row_59, E_X11_row_60, E_X11_row_61, E_X11_row_63, E_X11_row_64, E_X11_row_67, E_X11_row_70, E_X11_row_71, E_X11_row_72, E_X11_row_73, E_X11_row_74, E_X11_row_75, E_X11_row_77, rk_0, rc_83, rg_0_0, hhc, hw, b1, b2, gb_0, gb_1, g1_0, List.map_nil, List.map_cons, List.sum_cons, List.sum_nil, gcat_i, gcat_r, gcat_l, Nat.reduceAdd, Nat.reduceLeDiff, Nat.zero_le, Option.toList, List.cons_append, List.nil_append, gnk_i, gnk_r, gnk_n, gi_1, Nat.reduceLT, if_true, if_false]
      · simp only [E_X12_row_0, E_X12_row_1, E_X12_row_2, E_X12_row_5, E_X12_row_8, E_X12_row_9, E_X12_row_10, E_X12_row_11, E_X12_row_12, E_X12_row_15, E_X12_row_18, E_X12_row_19, E_X12_row_20, E_X12_row_21, E_X12_row_22, E_X12_row_23, E_X12_row_25, E_X12_row_28, E_X12_row_31, E_X12_row_33, E_X12_row_34, E_X12_row_35, E_X12_row_38, E_X12_row_39, E_X12_row_40, E_X12_row_42, E_X12_row_45, E_X12_row_47, E_X12_row_48, E_X12_row_49, E_X12_row_52, E_X12_row_53, E_X12_row_54, E_X12_row_55, E_X12_row_56, E_X12_row_57, E_X12_row_58, E_X12_row_60, E_X12_row_61, E_X12_row_64, E_X12_row_65, E_X12_row_66, E_X12_row_67, E_X12_row_68, E_X12_row_69, E_X12_row_70, E_X12_row_71, E_X12_row_73, rc_137, mc0, hin, b1, b2, gb_0, gb_1, g1_0, List.map_nil, List.map_cons, List.sum_cons, List.sum_nil, gcat_i, gcat_r, gcat_l, Nat.reduceAdd, Nat.reduceLeDiff, Nat.zero_le, Option.toList, List.cons_append, List.nil_append, gnk_i, gnk_r, gnk_n, gi_1, Nat.reduceLT, if_true, if_false]
    | true =>
      cases b3 : gB_in z 0 9 with
      | false =>
        refine i_no h0 (-2) (fun Q => ?_) (fun Q => ?_)
        · simp only [E_X11_row_0, E_X11_row_1, E_X11_row_4, E_X11_row_5, E_X11_row_8, E_X11_row_11, E_X11_row_12, E_X11_row_13, E_X11_row_16, E_X11_row_19, E_X11_row_20, E_X11_row_21, E_X11_row_22, E_X11_row_24, E_X11_row_27, E_X11_row_30, E_X11_row_32, E_X11_row_33, E_X11_row_34, E_X11_row_37, E_X11_row_40, E_X11_row_41, E_X11_row_42, E_X11_row_44, E_X11_row_47, E_X11_row_49, E_X11_row_50, E_X11_row_51, E_X11_row_54, E_X11_row_57, E_X11_row_58, E_X11_row_59, E_X11_row_60, E_X11_row_61, E_X11_row_63, E_X11_row_64, E_X11_row_67, E_X11_row_70, E_X11_row_71, E_X11_row_72, E_X11_row_73, E_X11_row_74, E_X11_row_75, E_X11_row_77, rk_0, rc_83, rg_0_0, hhc, hw, b1, b2, b3, gb_0, gb_1, g1_0, List.map_nil, List.map_cons, List.sum_cons, List.sum_nil, gcat_i, gcat_r, gcat_l, Nat.reduceAdd, Nat.reduceLeDiff, Nat.zero_le, Option.toList, List.cons_append, List.nil_append, gnk_i, gnk_r, gnk_n, gi_1, Nat.reduceLT, if_true, if_false]
        · simp only [E_X12_row_0, E_X12_row_1, E_X12_row_2, E_X12_row_5, E_X12_row_8, E_X12_row_9, E_X12_row_10, E_X12_row_11, E_X12_row_12, E_X12_row_15, E_X12_row_18, E_X12_row_19, E_X12_row_20, E_X12_row_21, E_X12_row_22, E_X12_row_23, E_X12_row_25, E_X12_row_28, E_X12_row_31, E_X12_row_33, E_X12_row_34, E_X12_row_35, E_X12_row_38, E_X12_row_39, E_X12_row_40, E_X12_row_42, E_X12_row_45, E_X12_row_47, E_X12_row_48, E_X12_row_49, E_X12_row_52, E_X12_row_53, E_X12_row_54, E_X12_row_55, E_X12_row_56, E_X12_row_57, E_X12_row_58, E_X12_row_60, E_X12_row_61, E_X12_row_64, E_X12_row_65, E_X12_row_66, E_X12_row_67, E_X12_row_68, E_X12_row_69, E_X12_row_70, E_X12_row_71, E_X12_row_73, rc_137, mc0, hin, b1, b2, b3, gb_0, gb_1, g1_0, List.map_nil, List.map_cons, List.sum_cons, List.sum_nil, gcat_i, gcat_r, gcat_l, Nat.reduceAdd, Nat.reduceLeDiff, Nat.zero_le, Option.toList, List.cons_append, List.nil_append, gnk_i, gnk_r, gnk_n, gi_1, Nat.reduceLT, if_true, if_false]
      | true =>
        obtain ⟨c, hc, e1⟩ := gA_of_ex b1 (by omega)
        obtain ⟨k, hk3, e2⟩ := gB_in_ex (k := 3) b2 (by decide)
        subst e1 e2
        have c6 : c < 6 := by omega
        have i1 : vp_in (nI c) 6 := vp_in_nI (by omega) (by omega)
        have i2 : (nI c).toNatClampNeg = c := nI_clamp (by omega)
        have i3 : vp_in (nI k) 4 := vp_in_nI (by omega) (by omega)
        have i4 : (nI k).toNatClampNeg = k := nI_clamp (by omega)
        have a2 : s.1 85 c = p.2.1 2 c := hR.2.2.2.2.2.2.2.1 2 c (Or.inr (Or.inl ⟨Or.inl rfl, hc⟩))
        obtain ⟨m2, -, m6⟩ := (gI_mR h).2.2.2.2.1 c hc
        have m6 := m6 k (by omega)
        by_cases h6 : p.2.1 2 c = 6
        · have q1 := fun s : gm_S => gm_ri_rok (yr_ri (s := s) gy_83 c6)
          have q2 := fun s : gm_S => gm_ri_rr (yr_ri (s := s) gy_83 c6)
          rw [i2] at q2
          have r1 := fun (s : gm_S) (i : Int32) => yr_a (s := s) (i := i) gy_83 c6
          have r2 := fun (s : gm_S) (j : Nat) => yr_v (s := s) (j := j) gy_83 c6
          have r3 := fun (s : gm_S) (j : Nat) (x : Int32) => yr_s (s := s) (j := j) (x := x) gy_83 c6
          have a6 : s.1 (83 + 6 + c) k = p.2.1 (6 + c) k := by
            have := hR.2.2.2.2.2.2.2.1 (6 + c) k (Or.inr (Or.inr (Or.inl ⟨by omega, by omega, by omega⟩)))
            rw [← Nat.add_assoc] at this
            exact this
          simp only [show (83 : Nat) + 5 = 88 from rfl, show (83 : Nat) + 6 = 89 from rfl] at q1 q2 r1 r2 r3 a6
          unfold gBoth
          simp only [E_X11_row_0, E_X11_row_1, E_X11_row_4, E_X11_row_5, E_X11_row_8, E_X11_row_11, E_X11_row_12, E_X11_row_13, E_X11_row_16, E_X11_row_19, E_X11_row_20, E_X11_row_21, E_X11_row_22, E_X11_row_24, E_X11_row_27, E_X11_row_30, E_X11_row_32, E_X11_row_33, E_X11_row_34, E_X11_row_37, E_X11_row_40, E_X11_row_41, E_X11_row_42, E_X11_row_44, E_X11_row_47, E_X11_row_49, E_X11_row_50, E_X11_row_51, E_X11_row_54, E_X11_row_57, E_X11_row_58, E_X11_row_59, E_X11_row_60, E_X11_row_61, E_X11_row_63, E_X11_row_64, E_X11_row_67, E_X11_row_70, E_X11_row_71, E_X11_row_72, E_X11_row_73, E_X11_row_74, E_X11_row_75, E_X11_row_77, rk_0, rk_83, rc_83, rg_0_0, rg_83_5, rg_83_8, ra_85, rv_85, i1, i2, i3, i4, a2, a6, h6, q1, q2, r1, r2, r3, hhc, hw, b1, b2, b3, gb_1, g1_0, List.map_nil, List.map_cons, List.sum_cons, List.sum_nil, gcat_i, gcat_r, gcat_l, Nat.reduceAdd, Nat.reduceLeDiff, Nat.zero_le, Option.toList, List.cons_append, List.nil_append, gnk_i, gnk_r, gnk_n, gi_1, Nat.reduceLT, if_true, if_false]
          refine ⟨_, rfl, ?_⟩
          have hmY : mY 9999 (gm_si s (89 + c) k z) cu cs p := mY_cg h.2.1.2.2.2 hk (fun b j q => by rw [gsi_1, if_neg (fun e => by omega)])
          have mc1 := mic _ hmY.1
          have e4 : (4 : Int32) * nI c = nI (4 * c) := gI_mul (a := 4)
          have e5 : nI (4 * c) + nI k = nI (4 * c + k) := nI_add _ _
          have j1 : vp_in (nI (4 * c + k)) 24 := vp_in_nI (by omega) (by omega)
          have j2 : (nI (4 * c + k)).toNatClampNeg = 4 * c + k := nI_clamp (by omega)
          obtain ⟨n2, -, n6⟩ := hmY.1.2.2.2.2.1 c hc
          have n6 := n6 k (by omega)
          simp only [E_X12_row_0, E_X12_row_1, E_X12_row_2, E_X12_row_5, E_X12_row_8, E_X12_row_9, E_X12_row_10, E_X12_row_11, E_X12_row_12, E_X12_row_15, E_X12_row_18, E_X12_row_19, E_X12_row_20, E_X12_row_21, E_X12_row_22, E_X12_row_23, E_X12_row_25, E_X12_row_28, E_X12_row_31, E_X12_row_33, E_X12_row_34, E_X12_row_35, E_X12_row_38, E_X12_row_39, E_X12_row_40, E_X12_row_42, E_X12_row_45, E_X12_row_47, E_X12_row_48, E_X12_row_49, E_X12_row_52, E_X12_row_53, E_X12_row_54, E_X12_row_55, E_X12_row_56, E_X12_row_57, E_X12_row_58, E_X12_row_60, E_X12_row_61, E_X12_row_64, E_X12_row_65, E_X12_row_66, E_X12_row_67, E_X12_row_68, E_X12_row_69, E_X12_row_70, E_X12_row_71, E_X12_row_73, rk_137, rc_137, rg_137_4, rg_137_7, ra_139, rv_139, ra_142, rv_142, rs_142, i1, i2, j1, j2, e4, e5, n2, n6, h6, mc1, hin, b1, b2, b3, gb_1, g1_0, List.map_nil, List.map_cons, List.sum_cons, List.sum_nil, gcat_i, gcat_r, gcat_l, Nat.reduceAdd, Nat.reduceLeDiff, Nat.zero_le, Option.toList, List.cons_append, List.nil_append, gnk_i, gnk_r, gnk_n, gi_1, Nat.reduceLT, if_true, if_false]
          have hR1 := gR_set (o := 6 + c) (j := k) (x := z) hR (by omega) (by omega)
          have ee : 83 + (6 + c) = 89 + c := by omega
          rw [ee] at hR1
          have hA1 : gAg pY s (gm_si s (89 + c) k z) := gAg_si gAg_refl (by unfold pY; omega)
          have hf := kCu_f h.2.1.1 h.1.2.2.1
          exact ⟨_, rfl, (by first | exact trivial | rfl), ⟨_, rfl⟩, gI_Y (p' := gA_set p (6 + c) k z) h (gAg_si hA1 (by unfold pY; omega)) (Nat.le_refl _) (gA_all_set h.2.1.2.1 (by omega)) (gR_cg hR1 k6 rfl (fun b j q => by rw [gsi_1, if_neg (fun e => by omega)])) (mY_row hmY k6 c6 (by omega))⟩
        · refine i_no h0 (-3) (fun Q => ?_) (fun Q => ?_)
          · simp only [E_X11_row_0, E_X11_row_1, E_X11_row_4, E_X11_row_5, E_X11_row_8, E_X11_row_11, E_X11_row_12, E_X11_row_13, E_X11_row_16, E_X11_row_19, E_X11_row_20, E_X11_row_21, E_X11_row_22, E_X11_row_24, E_X11_row_27, E_X11_row_30, E_X11_row_32, E_X11_row_33, E_X11_row_34, E_X11_row_37, E_X11_row_40, E_X11_row_41, E_X11_row_42, E_X11_row_44, E_X11_row_47, E_X11_row_49, E_X11_row_50, E_X11_row_51, E_X11_row_54, E_X11_row_57, E_X11_row_58, E_X11_row_59, E_X11_row_60, E_X11_row_61, E_X11_row_63, E_X11_row_64, E_X11_row_67, E_X11_row_70, E_X11_row_71, E_X11_row_72, E_X11_row_73, E_X11_row_74, E_X11_row_75, E_X11_row_77, rk_0, rk_83, rc_83, rg_0_0, rg_83_5, ra_85, rv_85, i1, i2, a2, h6, hhc, hw, b1, b2, b3, gb_1, g1_0, List.map_nil, List.map_cons, List.sum_cons, List.sum_nil, gcat_i, gcat_r, gcat_l, Nat.reduceAdd, Nat.reduceLeDiff, Nat.zero_le, Option.toList, List.cons_append, List.nil_append, gnk_i, gnk_r, gnk_n, gi_1, Nat.reduceLT, if_true, if_false]
          · simp only [E_X12_row_0, E_X12_row_1, E_X12_row_2, E_X12_row_5, E_X12_row_8, E_X12_row_9, E_X12_row_10, E_X12_row_11, E_X12_row_12, E_X12_row_15, E_X12_row_18, E_X12_row_19, E_X12_row_20, E_X12_row_21, E_X12_row_22, E_X12_row_23, E_X12_row_25, E_X12_row_28, E_X12_row_31, E_X12_row_33, E_X12_row_34, E_X12_row_35, E_X12_row_38, E_X12_row_39, E_X12_row_40, E_X12_row_42, E_X12_row_45, E_X12_row_47, E_X12_row_48, E_X12_row_49, E_X12_row_52, E_X12_row_53, E_X12_row_54, E_X12_row_55, E_X12_row_56, E_X12_row_57, E_X12_row_58, E_X12_row_60, E_X12_row_61, E_X12_row_64, E_X12_row_65, E_X12_row_66, E_X12_row_67, E_X12_row_68, E_X12_row_69, E_X12_row_70, E_X12_row_71, E_X12_row_73, rk_137, rc_137, rg_137_4, ra_139, rv_139, i1, i2, m2, h6, mc0, hin, b1, b2, b3, gb_1, g1_0, List.map_nil, List.map_cons, List.sum_cons, List.sum_nil, gcat_i, gcat_r, gcat_l, Nat.reduceAdd, Nat.reduceLeDiff, Nat.zero_le, Option.toList, List.cons_append, List.nil_append, gnk_i, gnk_r, gnk_n, gi_1, Nat.reduceLT, if_true, if_false]
end
