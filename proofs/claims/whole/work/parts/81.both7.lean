/-! both sides: taken; the tapes: tape, item, read -/
section
variable {s : gm_S} {t j : Nat}
theorem tp_ri (ht : t < 6) : gm_ri (gm_m s) 27 (nI t) (52 + 2 * t) := by
  have hin : vp_in (nI t) 6 := vp_in_nI ht (by omega)
  have e : (nI t).toNatClampNeg = t := nI_clamp (by omega)
  refine gm_m_ri (t := 7) (n := 6) (by decide) rfl (by decide) hin ?_ (by omega)
  rw [e]
  match t, ht with | 0, _ => rfl | 1, _ => rfl | 2, _ => rfl | 3, _ => rfl | 4, _ => rfl | 5, _ => rfl
theorem tk_ok (ht : t < 6) (hj : j < 3) : gm_gok (gm_m s) [8] (52 + 2 * t) j = true := by
  match t, ht with | 0, _ | 1, _ | 2, _ | 3, _ | 4, _ | 5, _ => exact gm_m_gok (ci := 8) (by decide) rfl hj rfl
theorem tk_cl (ht : t < 6) : gm_cl (gm_m s) (52 + 2 * t) 8 = true := by
  match t, ht with | 0, _ => rfl | 1, _ => rfl | 2, _ => rfl | 3, _ => rfl | 4, _ => rfl | 5, _ => rfl
theorem tg_0 (ht : t < 6) : gm_gv (gm_m s) (52 + 2 * t) 0 = .int (s.1 (52 + 2 * t) 0) := by
  match t, ht with | 0, _ => rfl | 1, _ => rfl | 2, _ => rfl | 3, _ => rfl | 4, _ => rfl | 5, _ => rfl
theorem tg_1 (ht : t < 6) : gm_gv (gm_m s) (52 + 2 * t) 1 = .int (s.1 (52 + 2 * t) 1) := by
  match t, ht with | 0, _ => rfl | 1, _ => rfl | 2, _ => rfl | 3, _ => rfl | 4, _ => rfl | 5, _ => rfl
theorem tg_2 (ht : t < 6) : gm_gv (gm_m s) (52 + 2 * t) 2 = .ref (53 + 2 * t) := by
  match t, ht with | 0, _ => rfl | 1, _ => rfl | 2, _ => rfl | 3, _ => rfl | 4, _ => rfl | 5, _ => rfl
theorem tg_sh (ht : t < 6) : 53 + 2 * t < 192 ∧ gm_sh (53 + 2 * t) = (2, 60, []) := by
  match t, ht with | 0, _ => exact ⟨by decide, rfl⟩ | 1, _ => exact ⟨by decide, rfl⟩ | 2, _ => exact ⟨by decide, rfl⟩ | 3, _ => exact ⟨by decide, rfl⟩ | 4, _ => exact ⟨by decide, rfl⟩ | 5, _ => exact ⟨by decide, rfl⟩
theorem tg_a {i : Int32} (ht : t < 6) : gm_li (gm_m s) (53 + 2 * t) i = vp_in i 60 := gm_m_li (tg_sh ht).1 (tg_sh ht).2
theorem tg_v (ht : t < 6) : gm_lv (gm_m s) (53 + 2 * t) j = s.2.2 (53 + 2 * t) j := gm_m_lv (tg_sh ht).1 (tg_sh ht).2
theorem tg_s {x : Int64} (ht : t < 6) : gm_ls (gm_m s) (53 + 2 * t) j x = gm_m (gm_sl s (53 + 2 * t) j x) := gm_m_ls (tg_sh ht).1 (tg_sh ht).2
theorem tg_p {x : Int32} (ht : t < 6) (hj : j < 2) : gm_ps (gm_m s) (52 + 2 * t) j (.int x) = gm_m (gm_si s (52 + 2 * t) j x) := by
  match t, ht, j, hj with
  | 0, _, 0, _ | 0, _, 1, _ | 1, _, 0, _ | 1, _, 1, _ | 2, _, 0, _ | 2, _, 1, _ | 3, _, 0, _ | 3, _, 1, _ | 4, _, 0, _ | 4, _, 1, _ | 5, _, 0, _ | 5, _, 1, _ => exact gm_m_psi (ci := 8) (by decide) rfl rfl
end
theorem gsl_2 {s : gm_S} {a k b j : Nat} {x : Int64} : (gm_sl s a k x).2.2 b j = if b = a ∧ j = k then x else s.2.2 b j := rfl
theorem gsl_1 {s : gm_S} {a k : Nat} {x : Int64} : (gm_sl s a k x).1 = s.1 := rfl
theorem gsi_22 {s : gm_S} {a k : Nat} {x : Int32} : (gm_si s a k x).2.2 = s.2.2 := rfl
/-- all but the tapes -/
def gTg (s s' : gm_S) : Prop := s'.2.1 = s.2.1 ∧ ∀ b j, ¬ ((52 ≤ b ∧ b ≤ 63) ∨ b = 188 ∨ b = 189) → s'.1 b j = s.1 b j
theorem gTg_rf {s : gm_S} : gTg s s := ⟨rfl, fun _ _ _ => rfl⟩
theorem gTg_si {s s' : gm_S} {a k : Nat} {x : Int32} (h : gTg s s') (ha : (52 ≤ a ∧ a ≤ 63) ∨ a = 188 ∨ a = 189) : gTg s (gm_si s' a k x) := by
  refine ⟨h.1, fun b j q => ?_⟩
  rw [gsi_1, if_neg (fun e => by omega)]
  exact h.2 b j q
theorem gTg_sl {s s' : gm_S} {a k : Nat} {x : Int64} (h : gTg s s') : gTg s (gm_sl s' a k x) := ⟨h.1, fun b j q => h.2 b j q⟩
theorem gTg_tr {s s' s2 : gm_S} (h : gTg s s') (h2 : gTg s' s2) : gTg s s2 := ⟨h2.1.trans h.1, fun b j q => (h2.2 b j q).trans (h.2 b j q)⟩
theorem gI_P {s s' : gm_S} {φ : List (List fC)} {p : gA} {cu : Option Nat} {cs : List fC} {f : Nat} {l1 : List gTr} {l2 l3 : List (Nat × Nat)} (h : gI s φ p cu cs f l1 l2 l3) (e : gTg s s') (hT : kTp s') : gInv s' := by
  obtain ⟨h1, h2, h3, h4, ⟨n, b, h5⟩, ⟨o, tr, h6⟩, h7⟩ := h
  obtain ⟨e1, e2⟩ := e
  exact ⟨⟨φ, p, cu, cs, f, l1, l2, l3, kFi_cg h1 (fun b j q => e2 b j (by omega)), kYd_cg h2 h1.2.2.1 (by rw [e1]) (fun b j q => e2 b j (by omega)), kLs_cg h3 (fun b j q => e2 b j (by omega)), kIm_cg h4 h1.2.2.1 (by rw [e1]) (fun b j q => e2 b j (by omega))⟩, ⟨n, b, kTx_cg h5 (fun b j q => e2 b j (by omega))⟩, ⟨o, tr, kAc_cg h6 (by rw [e1]) (fun b j q => e2 b j (by omega))⟩, hT⟩
section
variable {w : Nat × (Nat → Int32)} {s : gm_S} {x y z : Int32} {v : Int64} {d t : Nat} {Q : Option Value → gc_M → Prop}
theorem m_isTape : gc_X w (d + 1) 198 0 [some (.ref 137), some (.int x)] [] (gm_m s) Q = Q (some (.int (gb_i (gB_in x 0 5)))) (gm_m s) := by
  simp only [E_X12_isTape_0, E_X12_isTape_1, E_X12_isTape_2, E_X12_isTape_3, E_X12_isTape_4, E_X12_isTape_7, rc_137, m_in, gb_nar, List.map_nil, List.map_cons, List.sum_cons, List.sum_nil, gcat_i, gcat_r, gcat_l, Nat.reduceAdd, Nat.reduceLeDiff, Nat.zero_le, Option.toList, List.cons_append, List.nil_append, gnk_i, gnk_r, gnk_n, gi_1, Nat.reduceLT, if_true, if_false]
/-- become -/
theorem c_become_loop {a b : Int32} {s0 : gm_S} (ht : t < 6) (hq : ∀ s', s'.1 = s0.1 → s'.2.1 = s0.2.1 → (∀ c j, c ≠ 53 + 2 * t → s'.2.2 c j = s0.2.2 c j) → (∀ j, j < 60 → s'.2.2 (53 + 2 * t) j = 0) → Q none (gm_m s')) : ∀ (n i : Nat) (s : gm_S), i + n = 60 → s.1 = s0.1 → s.2.1 = s0.2.1 → (∀ c j, c ≠ 53 + 2 * t → s.2.2 c j = s0.2.2 c j) → (∀ j, j < i → s.2.2 (53 + 2 * t) j = 0) → gc_X w d 44 12 [some (.ref (52 + 2 * t)), some (.int a), some (.int b), some (.int (nI i))] [] (gm_m s) Q := by
  intro n
  induction n with
  | zero =>
    intro i s hi h1 h2 h3 h4
    have e : i = 60 := by omega
    subst e
    rw [E_X8_become_12]
    simp (decide := true) only [E_X8_become_13, E_X8_become_15, E_X8_become_31, if_true]
    exact hq s h1 h2 h3 h4
  | succ n ih =>
    intro i s hi h1 h2 h3 h4
    have i1 : vp_in (nI i) 60 := vp_in_nI (by omega) (by omega)
    have i2 : (nI i).toNatClampNeg = i := nI_clamp (by omega)
    have hge : ¬ (60 : Int32) ≤ nI i := nI_ge (b := 60) (by omega) (by omega)
    rw [E_X8_become_12]
    have hi2 := ih (i + 1) (gm_sl s (53 + 2 * t) i 0) (by omega) h1 h2 (fun c j q => by rw [gsl_2, if_neg (fun e => q e.1)]; exact h3 c j q) (fun j hj => by
      rw [gsl_2]
      by_cases e : j = i
      · rw [if_pos ⟨rfl, e⟩]
      · rw [if_neg (fun q => e q.2)]
        exact h4 j (by omega))
    rw [nI_succ] at hi2
    simp only [E_X8_become_0, E_X8_become_1, E_X8_become_2, E_X8_become_5, E_X8_become_6, E_X8_become_7, E_X8_become_10, E_X8_become_11, E_X8_become_13, E_X8_become_15, E_X8_become_18, E_X8_become_19, E_X8_become_22, E_X8_become_23, E_X8_become_24, E_X8_become_25, E_X8_become_28, E_X8_become_31, tk_ok ht, tg_2 ht, tg_a ht, tg_s ht, i1, i2, hge, gnk_i, gnk_r, gnk_n, gi_1, Nat.reduceLT, if_true, if_false]
    exact hi2
theorem c_become {a b : Int32} (ht : t < 6) (hq : ∀ s', gTg s s' → s'.1 (52 + 2 * t) 0 = a → s'.1 (52 + 2 * t) 1 = b → (∀ c j, ¬ (c = 52 + 2 * t) → s'.1 c j = s.1 c j) → (∀ c j, c ≠ 53 + 2 * t → s'.2.2 c j = s.2.2 c j) → (∀ j, j < 60 → s'.2.2 (53 + 2 * t) j = 0) → Q none (gm_m s')) : gc_X w d 44 0 [some (.ref (52 + 2 * t)), some (.int a), some (.int b), none] [] (gm_m s) Q := by
  simp only [E_X8_become_0, E_X8_become_1, E_X8_become_2, E_X8_become_5, E_X8_become_6, E_X8_become_7, E_X8_become_10, E_X8_become_11, E_X8_become_13, E_X8_become_15, E_X8_become_18, E_X8_become_19, E_X8_become_22, E_X8_become_23, E_X8_become_24, E_X8_become_25, E_X8_become_28, E_X8_become_31, tk_ok ht, tg_p ht, gnk_i, gnk_r, gnk_n, gi_1, Nat.reduceLT, if_true, if_false]
  rw [← nI_0]
  refine c_become_loop (s0 := gm_si (gm_si s (52 + 2 * t) 0 a) (52 + 2 * t) 1 b) ht (fun s' h1 h2 h3 h4 => ?_) 60 0 _ (by omega) rfl rfl (fun _ _ _ => rfl) (fun j hj => by omega)
  refine hq s' ⟨h2, fun c j q => ?_⟩ ?_ ?_ (fun c j q => ?_) (fun c j q => h3 c j q) h4
  · rw [h1, gsi_1, if_neg (fun e => by omega), gsi_1, if_neg (fun e => by omega)]
  · rw [h1, gsi_1, if_neg (fun e => by omega), gsi_1, if_pos ⟨rfl, rfl⟩]
  · rw [h1, gsi_1, if_pos ⟨rfl, rfl⟩]
  · rw [h1, gsi_1, if_neg (fun e => by omega), gsi_1, if_neg (fun e => by omega)]
theorem m_zero_loop {a b : Int32} {s0 : gm_S} (ht : t < 6) (hq : ∀ s', s'.1 = s0.1 → s'.2.1 = s0.2.1 → (∀ c j, ¬ (c = 190 ∧ 60 * t ≤ j ∧ j < 60 * t + 60) → s'.2.2 c j = s0.2.2 c j) → (∀ j, j < 60 → s'.2.2 190 (60 * t + j) = 0) → Q (some (.int 1)) (gm_m s')) : ∀ (n i : Nat) (s : gm_S), i + n = 60 → s.1 = s0.1 → s.2.1 = s0.2.1 → (∀ c j, ¬ (c = 190 ∧ 60 * t ≤ j ∧ j < 60 * t + 60) → s.2.2 c j = s0.2.2 c j) → (∀ j, j < i → s.2.2 190 (60 * t + j) = 0) → gc_X w d 199 69 [some (.ref 137), some (.int (nI t)), some (.int a), some (.int b), some (.int (nI i))] [] (gm_m s) Q := by
  intro n
  induction n with
  | zero =>
    intro i s hi h1 h2 h3 h4
    have e : i = 60 := by omega
    subst e
    rw [E_X12_tape_69]
    simp (decide := true) only [E_X12_tape_71, E_X12_tape_73, E_X12_tape_95, E_X12_tape_96, if_true]
    exact hq s h1 h2 h3 h4
  | succ n ih =>
    intro i s hi h1 h2 h3 h4
    have i1 : vp_in (nI (60 * t + i)) 360 := vp_in_nI (by omega) (by omega)
    have i2 : (nI (60 * t + i)).toNatClampNeg = 60 * t + i := nI_clamp (by omega)
    have hge : ¬ (60 : Int32) ≤ nI i := nI_ge (b := 60) (by omega) (by omega)
    have e1 : (60 : Int32) * nI t = nI (60 * t) := gI_mul (a := 60)
    have e2 : nI (60 * t) + nI i = nI (60 * t + i) := nI_add _ _
    rw [E_X12_tape_69]
    have hi2 := ih (i + 1) (gm_sl s 190 (60 * t + i) 0) (by omega) h1 h2 (fun c j q => by rw [gsl_2, if_neg (fun e => q (by omega))]; exact h3 c j q) (fun j hj => by
      rw [gsl_2]
      by_cases e : j = i
      · rw [if_pos ⟨rfl, by omega⟩]
      · rw [if_neg (fun q => by omega)]
        exact h4 j (by omega))
    rw [nI_succ] at hi2
    simp only [E_X12_tape_0, E_X12_tape_1, E_X12_tape_2, E_X12_tape_5, E_X12_tape_8, E_X12_tape_9, E_X12_tape_10, E_X12_tape_11, E_X12_tape_12, E_X12_tape_13, E_X12_tape_14, E_X12_tape_17, E_X12_tape_20, E_X12_tape_21, E_X12_tape_24, E_X12_tape_25, E_X12_tape_27, E_X12_tape_30, E_X12_tape_32, E_X12_tape_33, E_X12_tape_34, E_X12_tape_37, E_X12_tape_38, E_X12_tape_41, E_X12_tape_43, E_X12_tape_44, E_X12_tape_45, E_X12_tape_48, E_X12_tape_49, E_X12_tape_50, E_X12_tape_51, E_X12_tape_52, E_X12_tape_55, E_X12_tape_56, E_X12_tape_57, E_X12_tape_60, E_X12_tape_61, E_X12_tape_64, E_X12_tape_65, E_X12_tape_66, E_X12_tape_67, E_X12_tape_71, E_X12_tape_73, E_X12_tape_76, E_X12_tape_77, E_X12_tape_80, E_X12_tape_82, E_X12_tape_83, E_X12_tape_84, E_X12_tape_86, E_X12_tape_87, E_X12_tape_88, E_X12_tape_89, E_X12_tape_92, E_X12_tape_95, E_X12_tape_96, rk_137, rg_137_77, ra_190, rs_190, e1, e2, i1, i2, hge, gnk_i, gnk_r, gnk_n, gi_1, Nat.reduceLT, if_true, if_false]
    exact hi2
theorem gI_t1 {φ : List (List fC)} {p : gA} {cu : Option Nat} {cs : List fC} {f : Nat} {l1 : List gTr} {l2 l3 : List (Nat × Nat)} (h : gI s φ p cu cs f l1 l2 l3) : kTp s := h.2.2.2.2.2.2
theorem i_tape (h : gInv s) : gBoth w 94 199 [some (.ref 0), some (.int x), some (.int y), some (.int z)] [some (.ref 137), some (.int x), some (.int y), some (.int z), none] s := by
  have h0 := h
  obtain ⟨φ, p, cu, cs, f, l1, l2, l3, h⟩ := gInv_I h
  have hw := fun (s : gm_S) (a b : Int32) (Q : Option Value → gc_M → Prop) => c_within (w := w) (d := 39) (s := s) (x := a) (y := b) (Q := Q)
  have hin := fun (a b c : Int32) (s : gm_S) (Q : Option Value → gc_M → Prop) => m_in (w := w) (d := 39) (s := s) (x := a) (y := b) (z := c) (Q := Q)
  have mit := fun (s : gm_S) (a : Int32) (Q : Option Value → gc_M → Prop) => m_isTape (w := w) (d := 38) (s := s) (x := a) (Q := Q)
  cases b1 : gB_in x 0 5 with
  | false =>
    refine i_no h0 (-1) (fun Q => ?_) (fun Q => ?_)
    · simp only [E_X11_tape_0, E_X11_tape_1, E_X11_tape_2, E_X11_tape_5, E_X11_tape_8, E_X11_tape_9, E_X11_tape_10, E_X11_tape_11, E_X11_tape_12, E_X11_tape_15, E_X11_tape_16, E_X11_tape_17, E_X11_tape_20, E_X11_tape_23, E_X11_tape_25, E_X11_tape_26, E_X11_tape_27, E_X11_tape_28, E_X11_tape_31, E_X11_tape_32, E_X11_tape_35, E_X11_tape_36, E_X11_tape_37, E_X11_tape_38, E_X11_tape_39, E_X11_tape_42, E_X11_tape_43, E_X11_tape_44, E_X11_tape_45, E_X11_tape_47, E_X11_tape_50, E_X11_tape_52, E_X11_tape_53, E_X11_tape_54, E_X11_tape_57, E_X11_tape_59, E_X11_tape_60, E_X11_tape_61, E_X11_tape_64, E_X11_tape_65, E_X11_tape_66, E_X11_tape_67, E_X11_tape_68, E_X11_tape_71, E_X11_tape_72, hw, b1, gb_0, List.map_nil, List.map_cons, List.sum_cons, List.sum_nil, gcat_i, gcat_r, gcat_l, Nat.reduceAdd, Nat.reduceLeDiff, Nat.zero_le, Option.toList, List.cons_append, List.nil_append, gnk_i, gnk_r, gnk_n, gi_1, Nat.reduceLT, if_true, if_false]
    · simp only [E_X12_tape_0, E_X12_tape_1, E_X12_tape_2, E_X12_tape_5, E_X12_tape_8, E_X12_tape_9, E_X12_tape_10, E_X12_tape_11, E_X12_tape_12, E_X12_tape_13, E_X12_tape_14, E_X12_tape_17, E_X12_tape_20, E_X12_tape_21, E_X12_tape_24, E_X12_tape_25, E_X12_tape_27, E_X12_tape_30, E_X12_tape_32, E_X12_tape_33, E_X12_tape_34, E_X12_tape_37, E_X12_tape_38, E_X12_tape_41, E_X12_tape_43, E_X12_tape_44, E_X12_tape_45, E_X12_tape_48, E_X12_tape_49, E_X12_tape_50, E_X12_tape_51, E_X12_tape_52, E_X12_tape_55, E_X12_tape_56, E_X12_tape_57, E_X12_tape_60, E_X12_tape_61, E_X12_tape_64, E_X12_tape_65, E_X12_tape_66, E_X12_tape_67, E_X12_tape_71, E_X12_tape_73, E_X12_tape_76, E_X12_tape_77, E_X12_tape_80, E_X12_tape_82, E_X12_tape_83, E_X12_tape_84, E_X12_tape_86, E_X12_tape_87, E_X12_tape_88, E_X12_tape_89, E_X12_tape_92, E_X12_tape_95, E_X12_tape_96, rc_137, mit, b1, gb_0, List.map_nil, List.map_cons, List.sum_cons, List.sum_nil, gcat_i, gcat_r, gcat_l, Nat.reduceAdd, Nat.reduceLeDiff, Nat.zero_le, Option.toList, List.cons_append, List.nil_append, gnk_i, gnk_r, gnk_n, gi_1, Nat.reduceLT, if_true, if_false]
  | true =>
    obtain ⟨t, ht, e1⟩ := gB_in_ex (k := 5) b1 (by decide)
    have ht6 : t < 6 := by omega
    subst e1
    have i1 : vp_in (nI t) 6 := vp_in_nI (by omega) (by omega)
    have i2 : (nI t).toNatClampNeg = t := nI_clamp (by omega)
    have q1 := gm_ri_rok (tp_ri (s := s) ht6)
    have q2 := gm_ri_rr (tp_ri (s := s) ht6)
    rw [i2] at q2
    -- both become: sort a, length n
    have fin : ∀ (a lz : Int32) (n : Nat), n ≤ 60 → (a = -1 ∧ n = 0 ∨ ∃ k, k < 5 ∧ a = nI k) → (∀ Q : Option Value → gc_M → Prop, (∀ Q' : Option Value → gc_M → Prop, (∀ M, Q' none M = Q (some (.int 1)) M) → gc_X w 39 44 0 [some (.ref (52 + 2 * t)), some (.int a), some (.int (nI n)), none] [] (gm_m s) Q') → gc_X w 40 94 0 [some (.ref 0), some (.int (nI t)), some (.int y), some (.int z)] [] (gm_m s) Q) → (∀ (s1 : gm_S) Q, gc_X w 40 199 0 [some (.ref 137), some (.int (nI t)), some (.int y), some (.int z), none] [] (gm_m s1) Q = gc_X w 40 199 69 [some (.ref 137), some (.int (nI t)), some (.int y), some (.int z), some (.int 0)] [] (gm_m (gm_si (gm_si s1 188 t a) 189 t (nI n))) Q) → gBoth w 94 199 [some (.ref 0), some (.int (nI t)), some (.int y), some (.int z)] [some (.ref 137), some (.int (nI t)), some (.int y), some (.int z), none] s := by
      intro a lz n hn ha hc hm
      unfold gBoth
      refine hc _ (fun Q' hQ' => c_become ht6 (fun s1 g1 f0 f1 f2 f3 f4 => ?_))
      rw [hQ']
      refine ⟨s1, rfl, ?_⟩
      rw [hm, ← nI_0]
      refine m_zero_loop (s0 := gm_si (gm_si s1 188 t a) 189 t (nI n)) ht6 (fun s2 k1 k2 k3 k4 => ⟨s2, rfl, (by first | exact trivial | rfl), ⟨_, rfl⟩, gI_P h ?_ ?_⟩) 60 0 _ (by omega) rfl rfl (fun _ _ _ => rfl) (fun j hj => by omega)
      · refine gTg_tr g1 ⟨k2, fun b j q => ?_⟩
        rw [k1, gsi_1, if_neg (fun e => by omega), gsi_1, if_neg (fun e => by omega)]
      · intro u hu
        obtain ⟨so, m, r1, r2, r3, r4, r5, r6, r7⟩ := gI_t1 h u hu
        by_cases e : u = t
        · subst e
          refine ⟨a, n, ?_, ?_, ?_, ?_, hn, ha, fun i hi => ?_⟩
          · rw [k1, gsi_1, if_neg (fun e => by omega), gsi_1, if_neg (fun e => by omega)]
            exact f0
          · rw [k1, gsi_1, if_neg (fun e => by omega), gsi_1, if_pos ⟨rfl, rfl⟩]
          · rw [k1, gsi_1, if_neg (fun e => by omega), gsi_1, if_neg (fun e => by omega)]
            exact f1
          · rw [k1, gsi_1, if_pos ⟨rfl, rfl⟩]
          · rw [k4 i hi, k3 _ _ (by omega)]
            exact f4 i hi
        · refine ⟨so, m, ?_, ?_, ?_, ?_, r5, r6, fun i hi => ?_⟩
          · rw [k1, gsi_1, if_neg (fun e => by omega), gsi_1, if_neg (fun e => by omega), f2 _ _ (by omega)]
            exact r1
          · rw [k1, gsi_1, if_neg (fun e => by omega), gsi_1, if_neg (fun e => by omega), f2 _ _ (by omega)]
            exact r2
          · rw [k1, gsi_1, if_neg (fun e => by omega), gsi_1, if_neg (fun e => by omega), f2 _ _ (by omega)]
            exact r3
          · rw [k1, gsi_1, if_neg (fun e => by omega), gsi_1, if_neg (fun e => by omega), f2 _ _ (by omega)]
            exact r4
          · rw [k3 _ _ (by omega), k3 _ _ (by omega)]
            show s1.2.2 _ _ = s1.2.2 _ _
            rw [f3 _ _ (by omega), f3 _ _ (by omega)]
            exact r7 i hi
    by_cases ym : y = -1
    · have w1 : gB_in (-1) (-1) 4 = true := rfl
      have w2 : ¬ (0 : Int32) ≤ -1 := by decide
      have w3 : (-1 : Int32) < 0 := by decide
      refine fin (-1) z 0 (by omega) (Or.inl ⟨rfl, rfl⟩) (fun Q hQ => ?_) (fun s1 Q => ?_)
      · rw [nI_0] at hQ
        simp only [E_X11_tape_0, E_X11_tape_1, E_X11_tape_2, E_X11_tape_5, E_X11_tape_8, E_X11_tape_9, E_X11_tape_10, E_X11_tape_11, E_X11_tape_12, E_X11_tape_15, E_X11_tape_16, E_X11_tape_17, E_X11_tape_20, E_X11_tape_23, E_X11_tape_25, E_X11_tape_26, E_X11_tape_27, E_X11_tape_28, E_X11_tape_31, E_X11_tape_32, E_X11_tape_35, E_X11_tape_36, E_X11_tape_37, E_X11_tape_38, E_X11_tape_39, E_X11_tape_42, E_X11_tape_43, E_X11_tape_44, E_X11_tape_45, E_X11_tape_47, E_X11_tape_50, E_X11_tape_52, E_X11_tape_53, E_X11_tape_54, E_X11_tape_57, E_X11_tape_59, E_X11_tape_60, E_X11_tape_61, E_X11_tape_64, E_X11_tape_65, E_X11_tape_66, E_X11_tape_67, E_X11_tape_68, E_X11_tape_71, E_X11_tape_72, rk_0, rg_0_16, tk_cl ht6, q1, q2, i2, hw, b1, ym, gb_1, g1_0, List.map_nil, List.map_cons, List.sum_cons, List.sum_nil, gcat_i, gcat_r, gcat_l, Nat.reduceAdd, Nat.reduceLeDiff, Nat.zero_le, Option.toList, List.cons_append, List.nil_append, gnk_i, gnk_r, gnk_n, gi_1, Nat.reduceLT, if_true, if_false]
        refine hQ _ (fun M => ?_)
        simp only [E_X11_tape_0, E_X11_tape_1, E_X11_tape_2, E_X11_tape_5, E_X11_tape_8, E_X11_tape_9, E_X11_tape_10, E_X11_tape_11, E_X11_tape_12, E_X11_tape_15, E_X11_tape_16, E_X11_tape_17, E_X11_tape_20, E_X11_tape_23, E_X11_tape_25, E_X11_tape_26, E_X11_tape_27, E_X11_tape_28, E_X11_tape_31, E_X11_tape_32, E_X11_tape_35, E_X11_tape_36, E_X11_tape_37, E_X11_tape_38, E_X11_tape_39, E_X11_tape_42, E_X11_tape_43, E_X11_tape_44, E_X11_tape_45, E_X11_tape_47, E_X11_tape_50, E_X11_tape_52, E_X11_tape_53, E_X11_tape_54, E_X11_tape_57, E_X11_tape_59, E_X11_tape_60, E_X11_tape_61, E_X11_tape_64, E_X11_tape_65, E_X11_tape_66, E_X11_tape_67, E_X11_tape_68, E_X11_tape_71, E_X11_tape_72, ym, List.map_nil, List.map_cons, List.sum_cons, List.sum_nil, gcat_i, gcat_r, gcat_l, Nat.reduceAdd, Nat.reduceLeDiff, Nat.zero_le, Option.toList, List.cons_append, List.nil_append, gnk_i, gnk_r, gnk_n, gi_1, Nat.reduceLT, if_true, if_false]
      · rw [nI_0]
        simp only [E_X12_tape_0, E_X12_tape_1, E_X12_tape_2, E_X12_tape_5, E_X12_tape_8, E_X12_tape_9, E_X12_tape_10, E_X12_tape_11, E_X12_tape_12, E_X12_tape_13, E_X12_tape_14, E_X12_tape_17, E_X12_tape_20, E_X12_tape_21, E_X12_tape_24, E_X12_tape_25, E_X12_tape_27, E_X12_tape_30, E_X12_tape_32, E_X12_tape_33, E_X12_tape_34, E_X12_tape_37, E_X12_tape_38, E_X12_tape_41, E_X12_tape_43, E_X12_tape_44, E_X12_tape_45, E_X12_tape_48, E_X12_tape_49, E_X12_tape_50, E_X12_tape_51, E_X12_tape_52, E_X12_tape_55, E_X12_tape_56, E_X12_tape_57, E_X12_tape_60, E_X12_tape_61, E_X12_tape_64, E_X12_tape_65, E_X12_tape_66, E_X12_tape_67, E_X12_tape_71, E_X12_tape_73, E_X12_tape_76, E_X12_tape_77, E_X12_tape_80, E_X12_tape_82, E_X12_tape_83, E_X12_tape_84, E_X12_tape_86, E_X12_tape_87, E_X12_tape_88, E_X12_tape_89, E_X12_tape_92, E_X12_tape_95, E_X12_tape_96, rk_137, rc_137, rg_137_75, rg_137_76, ra_188, rs_188, ra_189, rs_189, i1, i2, mit, hin, b1, ym, w1, w2, w3, gb_1, g1_0, List.map_nil, List.map_cons, List.sum_cons, List.sum_nil, gcat_i, gcat_r, gcat_l, Nat.reduceAdd, Nat.reduceLeDiff, Nat.zero_le, Option.toList, List.cons_append, List.nil_append, gnk_i, gnk_r, gnk_n, gi_1, Nat.reduceLT, if_true, if_false]
    cases b2 : gB_in y 0 4 with
    | false =>
      have w1 : gB_in y (-1) 4 = false := by
        cases hb : gB_in y (-1) 4 with
        | false => rfl
        | true =>
          have hb2 : (!(decide (y < -1)) && !(decide ((4 : Int32) < y))) = true := hb
          have hc2 : (!(decide (y < 0)) && !(decide ((4 : Int32) < y))) = false := b2
          simp only [Bool.and_eq_true, Bool.not_eq_true', decide_eq_false_iff_not] at hb2
          rw [decide_eq_false hb2.2] at hc2
          by_cases q : y < 0
          · exfalso
            apply ym
            apply gx_inj
            have e1 : (-1 : Int32).toInt = -1 := by decide
            have q2 := hb2.1
            rw [gx_lt, e1] at q2
            rw [gx_lt, gx_0] at q
            rw [e1]
            omega
          · rw [decide_eq_false q] at hc2
            exact absurd hc2 (by decide)
      refine i_no h0 (-2) (fun Q => ?_) (fun Q => ?_)
      · simp only [E_X11_tape_0, E_X11_tape_1, E_X11_tape_2, E_X11_tape_5, E_X11_tape_8, E_X11_tape_9, E_X11_tape_10, E_X11_tape_11, E_X11_tape_12, E_X11_tape_15, E_X11_tape_16, E_X11_tape_17, E_X11_tape_20, E_X11_tape_23, E_X11_tape_25, E_X11_tape_26, E_X11_tape_27, E_X11_tape_28, E_X11_tape_31, E_X11_tape_32, E_X11_tape_35, E_X11_tape_36, E_X11_tape_37, E_X11_tape_38, E_X11_tape_39, E_X11_tape_42, E_X11_tape_43, E_X11_tape_44, E_X11_tape_45, E_X11_tape_47, E_X11_tape_50, E_X11_tape_52, E_X11_tape_53, E_X11_tape_54, E_X11_tape_57, E_X11_tape_59, E_X11_tape_60, E_X11_tape_61, E_X11_tape_64, E_X11_tape_65, E_X11_tape_66, E_X11_tape_67, E_X11_tape_68, E_X11_tape_71, E_X11_tape_72, hw, b1, b2, ym, gb_0, gb_1, g1_0, List.map_nil, List.map_cons, List.sum_cons, List.sum_nil, gcat_i, gcat_r, gcat_l, Nat.reduceAdd, Nat.reduceLeDiff, Nat.zero_le, Option.toList, List.cons_append, List.nil_append, gnk_i, gnk_r, gnk_n, gi_1, Nat.reduceLT, if_true, if_false]
      · simp only [E_X12_tape_0, E_X12_tape_1, E_X12_tape_2, E_X12_tape_5, E_X12_tape_8, E_X12_tape_9, E_X12_tape_10, E_X12_tape_11, E_X12_tape_12, E_X12_tape_13, E_X12_tape_14, E_X12_tape_17, E_X12_tape_20, E_X12_tape_21, E_X12_tape_24, E_X12_tape_25, E_X12_tape_27, E_X12_tape_30, E_X12_tape_32, E_X12_tape_33, E_X12_tape_34, E_X12_tape_37, E_X12_tape_38, E_X12_tape_41, E_X12_tape_43, E_X12_tape_44, E_X12_tape_45, E_X12_tape_48, E_X12_tape_49, E_X12_tape_50, E_X12_tape_51, E_X12_tape_52, E_X12_tape_55, E_X12_tape_56, E_X12_tape_57, E_X12_tape_60, E_X12_tape_61, E_X12_tape_64, E_X12_tape_65, E_X12_tape_66, E_X12_tape_67, E_X12_tape_71, E_X12_tape_73, E_X12_tape_76, E_X12_tape_77, E_X12_tape_80, E_X12_tape_82, E_X12_tape_83, E_X12_tape_84, E_X12_tape_86, E_X12_tape_87, E_X12_tape_88, E_X12_tape_89, E_X12_tape_92, E_X12_tape_95, E_X12_tape_96, rc_137, mit, hin, b1, w1, gb_0, gb_1, g1_0, List.map_nil, List.map_cons, List.sum_cons, List.sum_nil, gcat_i, gcat_r, gcat_l, Nat.reduceAdd, Nat.reduceLeDiff, Nat.zero_le, Option.toList, List.cons_append, List.nil_append, gnk_i, gnk_r, gnk_n, gi_1, Nat.reduceLT, if_true, if_false]
    | true =>
      obtain ⟨k, hk, e1⟩ := gB_in_ex (k := 4) b2 (by decide)
      subst e1
      have w1 : gB_in (nI k) (-1) 4 = true := by
        have : ∀ k, k ≤ 4 → gB_in (nI k) (-1) 4 = true := by decide
        exact this k hk
      have w2 : (0 : Int32) ≤ nI k := nI_pos' (by omega)
      have w3 : ¬ nI k < 0 := nI_pos (by omega)
      by_cases hz : z ≤ 60
      · by_cases hz0 : z < 0
        · have hz1 : ¬ 0 ≤ z := by
            rw [gx_lt] at hz0
            rw [gx_le]
            omega
          refine i_no h0 (-14) (fun Q => ?_) (fun Q => ?_)
          · simp only [E_X11_tape_0, E_X11_tape_1, E_X11_tape_2, E_X11_tape_5, E_X11_tape_8, E_X11_tape_9, E_X11_tape_10, E_X11_tape_11, E_X11_tape_12, E_X11_tape_15, E_X11_tape_16, E_X11_tape_17, E_X11_tape_20, E_X11_tape_23, E_X11_tape_25, E_X11_tape_26, E_X11_tape_27, E_X11_tape_28, E_X11_tape_31, E_X11_tape_32, E_X11_tape_35, E_X11_tape_36, E_X11_tape_37, E_X11_tape_38, E_X11_tape_39, E_X11_tape_42, E_X11_tape_43, E_X11_tape_44, E_X11_tape_45, E_X11_tape_47, E_X11_tape_50, E_X11_tape_52, E_X11_tape_53, E_X11_tape_54, E_X11_tape_57, E_X11_tape_59, E_X11_tape_60, E_X11_tape_61, E_X11_tape_64, E_X11_tape_65, E_X11_tape_66, E_X11_tape_67, E_X11_tape_68, E_X11_tape_71, E_X11_tape_72, hw, b1, b2, ym, hz, hz1, gb_1, g1_0, List.map_nil, List.map_cons, List.sum_cons, List.sum_nil, gcat_i, gcat_r, gcat_l, Nat.reduceAdd, Nat.reduceLeDiff, Nat.zero_le, Option.toList, List.cons_append, List.nil_append, gnk_i, gnk_r, gnk_n, gi_1, Nat.reduceLT, if_true, if_false]
          · simp only [E_X12_tape_0, E_X12_tape_1, E_X12_tape_2, E_X12_tape_5, E_X12_tape_8, E_X12_tape_9, E_X12_tape_10, E_X12_tape_11, E_X12_tape_12, E_X12_tape_13, E_X12_tape_14, E_X12_tape_17, E_X12_tape_20, E_X12_tape_21, E_X12_tape_24, E_X12_tape_25, E_X12_tape_27, E_X12_tape_30, E_X12_tape_32, E_X12_tape_33, E_X12_tape_34, E_X12_tape_37, E_X12_tape_38, E_X12_tape_41, E_X12_tape_43, E_X12_tape_44, E_X12_tape_45, E_X12_tape_48, E_X12_tape_49, E_X12_tape_50, E_X12_tape_51, E_X12_tape_52, E_X12_tape_55, E_X12_tape_56, E_X12_tape_57, E_X12_tape_60, E_X12_tape_61, E_X12_tape_64, E_X12_tape_65, E_X12_tape_66, E_X12_tape_67, E_X12_tape_71, E_X12_tape_73, E_X12_tape_76, E_X12_tape_77, E_X12_tape_80, E_X12_tape_82, E_X12_tape_83, E_X12_tape_84, E_X12_tape_86, E_X12_tape_87, E_X12_tape_88, E_X12_tape_89, E_X12_tape_92, E_X12_tape_95, E_X12_tape_96, rc_137, mit, hin, b1, w1, w3, hz, hz1, gb_1, g1_0, List.map_nil, List.map_cons, List.sum_cons, List.sum_nil, gcat_i, gcat_r, gcat_l, Nat.reduceAdd, Nat.reduceLeDiff, Nat.zero_le, Option.toList, List.cons_append, List.nil_append, gnk_i, gnk_r, gnk_n, gi_1, Nat.reduceLT, if_true, if_false]
        · obtain ⟨n, hn, e1⟩ := nI_of2 (M := 60) (n := 60) (by decide) hz0 hz
          subst e1
          have hz1 : (0 : Int32) ≤ nI n := nI_pos' (by omega)
          refine fin (nI k) (nI n) n hn (Or.inr ⟨k, by omega, rfl⟩) (fun Q hQ => ?_) (fun s1 Q => ?_)
          · simp only [E_X11_tape_0, E_X11_tape_1, E_X11_tape_2, E_X11_tape_5, E_X11_tape_8, E_X11_tape_9, E_X11_tape_10, E_X11_tape_11, E_X11_tape_12, E_X11_tape_15, E_X11_tape_16, E_X11_tape_17, E_X11_tape_20, E_X11_tape_23, E_X11_tape_25, E_X11_tape_26, E_X11_tape_27, E_X11_tape_28, E_X11_tape_31, E_X11_tape_32, E_X11_tape_35, E_X11_tape_36, E_X11_tape_37, E_X11_tape_38, E_X11_tape_39, E_X11_tape_42, E_X11_tape_43, E_X11_tape_44, E_X11_tape_45, E_X11_tape_47, E_X11_tape_50, E_X11_tape_52, E_X11_tape_53, E_X11_tape_54, E_X11_tape_57, E_X11_tape_59, E_X11_tape_60, E_X11_tape_61, E_X11_tape_64, E_X11_tape_65, E_X11_tape_66, E_X11_tape_67, E_X11_tape_68, E_X11_tape_71, E_X11_tape_72, rk_0, rg_0_16, tk_cl ht6, q1, q2, i2, hw, b1, b2, ym, hz, hz1, gb_1, g1_0, List.map_nil, List.map_cons, List.sum_cons, List.sum_nil, gcat_i, gcat_r, gcat_l, Nat.reduceAdd, Nat.reduceLeDiff, Nat.zero_le, Option.toList, List.cons_append, List.nil_append, gnk_i, gnk_r, gnk_n, gi_1, Nat.reduceLT, if_true, if_false]
            refine hQ _ (fun M => ?_)
            simp only [E_X11_tape_0, E_X11_tape_1, E_X11_tape_2, E_X11_tape_5, E_X11_tape_8, E_X11_tape_9, E_X11_tape_10, E_X11_tape_11, E_X11_tape_12, E_X11_tape_15, E_X11_tape_16, E_X11_tape_17, E_X11_tape_20, E_X11_tape_23, E_X11_tape_25, E_X11_tape_26, E_X11_tape_27, E_X11_tape_28, E_X11_tape_31, E_X11_tape_32, E_X11_tape_35, E_X11_tape_36, E_X11_tape_37, E_X11_tape_38, E_X11_tape_39, E_X11_tape_42, E_X11_tape_43, E_X11_tape_44, E_X11_tape_45, E_X11_tape_47, E_X11_tape_50, E_X11_tape_52, E_X11_tape_53, E_X11_tape_54, E_X11_tape_57, E_X11_tape_59, E_X11_tape_60, E_X11_tape_61, E_X11_tape_64, E_X11_tape_65, E_X11_tape_66, E_X11_tape_67, E_X11_tape_68, E_X11_tape_71, E_X11_tape_72, List.map_nil, List.map_cons, List.sum_cons, List.sum_nil, gcat_i, gcat_r, gcat_l, Nat.reduceAdd, Nat.reduceLeDiff, Nat.zero_le, Option.toList, List.cons_append, List.nil_append, gnk_i, gnk_r, gnk_n, gi_1, Nat.reduceLT, if_true, if_false]
          · simp only [E_X12_tape_0, E_X12_tape_1, E_X12_tape_2, E_X12_tape_5, E_X12_tape_8, E_X12_tape_9, E_X12_tape_10, E_X12_tape_11, E_X12_tape_12, E_X12_tape_13, E_X12_tape_14, E_X12_tape_17, E_X12_tape_20, E_X12_tape_21, E_X12_tape_24, E_X12_tape_25, E_X12_tape_27, E_X12_tape_30, E_X12_tape_32, E_X12_tape_33, E_X12_tape_34, E_X12_tape_37, E_X12_tape_38, E_X12_tape_41, E_X12_tape_43, E_X12_tape_44, E_X12_tape_45, E_X12_tape_48, E_X12_tape_49, E_X12_tape_50, E_X12_tape_51, E_X12_tape_52, E_X12_tape_55, E_X12_tape_56, E_X12_tape_57, E_X12_tape_60, E_X12_tape_61, E_X12_tape_64, E_X12_tape_65, E_X12_tape_66, E_X12_tape_67, E_X12_tape_71, E_X12_tape_73, E_X12_tape_76, E_X12_tape_77, E_X12_tape_80, E_X12_tape_82, E_X12_tape_83, E_X12_tape_84, E_X12_tape_86, E_X12_tape_87, E_X12_tape_88, E_X12_tape_89, E_X12_tape_92, E_X12_tape_95, E_X12_tape_96, rk_137, rc_137, rg_137_75, rg_137_76, ra_188, rs_188, ra_189, rs_189, i1, i2, mit, hin, b1, w1, w2, w3, hz, hz1, gb_1, g1_0, List.map_nil, List.map_cons, List.sum_cons, List.sum_nil, gcat_i, gcat_r, gcat_l, Nat.reduceAdd, Nat.reduceLeDiff, Nat.zero_le, Option.toList, List.cons_append, List.nil_append, gnk_i, gnk_r, gnk_n, gi_1, Nat.reduceLT, if_true, if_false]
      · refine i_no h0 (-2) (fun Q => ?_) (fun Q => ?_)
        · simp only [E_X11_tape_0, E_X11_tape_1, E_X11_tape_2, E_X11_tape_5, E_X11_tape_8, E_X11_tape_9, E_X11_tape_10, E_X11_tape_11, E_X11_tape_12, E_X11_tape_15, E_X11_tape_16, E_X11_tape_17, E_X11_tape_20, E_X11_tape_23, E_X11_tape_25, E_X11_tape_26, E_X11_tape_27, E_X11_tape_28, E_X11_tape_31, E_X11_tape_32, E_X11_tape_35, E_X11_tape_36, E_X11_tape_37, E_X11_tape_38, E_X11_tape_39, E_X11_tape_42, E_X11_tape_43, E_X11_tape_44, E_X11_tape_45, E_X11_tape_47, E_X11_tape_50, E_X11_tape_52, E_X11_tape_53, E_X11_tape_54, E_X11_tape_57, E_X11_tape_59, E_X11_tape_60, E_X11_tape_61, E_X11_tape_64, E_X11_tape_65, E_X11_tape_66, E_X11_tape_67, E_X11_tape_68, E_X11_tape_71, E_X11_tape_72, hw, b1, b2, ym, hz, gb_0, gb_1, g1_0, List.map_nil, List.map_cons, List.sum_cons, List.sum_nil, gcat_i, gcat_r, gcat_l, Nat.reduceAdd, Nat.reduceLeDiff, Nat.zero_le, Option.toList, List.cons_append, List.nil_append, gnk_i, gnk_r, gnk_n, gi_1, Nat.reduceLT, if_true, if_false]
        · simp only [E_X12_tape_0, E_X12_tape_1, E_X12_tape_2, E_X12_tape_5, E_X12_tape_8, E_X12_tape_9, E_X12_tape_10, E_X12_tape_11, E_X12_tape_12, E_X12_tape_13, E_X12_tape_14, E_X12_tape_17, E_X12_tape_20, E_X12_tape_21, E_X12_tape_24, E_X12_tape_25, E_X12_tape_27, E_X12_tape_30, E_X12_tape_32, E_X12_tape_33, E_X12_tape_34, E_X12_tape_37, E_X12_tape_38, E_X12_tape_41, E_X12_tape_43, E_X12_tape_44, E_X12_tape_45, E_X12_tape_48, E_X12_tape_49, E_X12_tape_50, E_X12_tape_51, E_X12_tape_52, E_X12_tape_55, E_X12_tape_56, E_X12_tape_57, E_X12_tape_60, E_X12_tape_61, E_X12_tape_64, E_X12_tape_65, E_X12_tape_66, E_X12_tape_67, E_X12_tape_71, E_X12_tape_73, E_X12_tape_76, E_X12_tape_77, E_X12_tape_80, E_X12_tape_82, E_X12_tape_83, E_X12_tape_84, E_X12_tape_86, E_X12_tape_87, E_X12_tape_88, E_X12_tape_89, E_X12_tape_92, E_X12_tape_95, E_X12_tape_96, rc_137, mit, hin, b1, w1, w3, hz, gb_0, gb_1, g1_0, List.map_nil, List.map_cons, List.sum_cons, List.sum_nil, gcat_i, gcat_r, gcat_l, Nat.reduceAdd, Nat.reduceLeDiff, Nat.zero_le, Option.toList, List.cons_append, List.nil_append, gnk_i, gnk_r, gnk_n, gi_1, Nat.reduceLT, if_true, if_false]
/-- a tape's numbers, in place -/
theorem kT1_ge {n : Nat} {z : Int32} (hn : n ≤ 60) (h0 : ¬ z < 0) : (nI n ≤ z) ∨ ∃ i, i < n ∧ z = nI i := by
  obtain ⟨i, hi, e⟩ := nI_of h0
  by_cases q : i < n
  · exact Or.inr ⟨i, q, e⟩
  · exact Or.inl (by rw [e]; exact nI_le (by omega) hi)
def a_nar (so : Int32) (v : Int64) : Int64 := if so = 0 then (v.toInt32.toInt8.toInt32).toInt64 else if so = 1 then (v.toInt32.toInt16.toInt32).toInt64 else if so = 2 then v.toInt32.toInt64 else if so = 3 then v else if lg_cmp v 0 = 0 then 0 else 1
theorem c_narrow {k : Nat} (ht : t < 6) (hs : s.1 (52 + 2 * t) 0 = nI k) (hk : k < 5) : gc_X w d 45 0 [some (.ref (52 + 2 * t)), some (.long v), none] [] (gm_m s) Q = Q (some (.long (a_nar (nI k) v))) (gm_m s) := by
  unfold a_nar
  have c : k = 0 ∨ k = 1 ∨ k = 2 ∨ k = 3 ∨ k = 4 := by omega
  by_cases hv : lg_cmp v 0 = 0 <;> (rcases c with rfl | rfl | rfl | rfl | rfl <;> simp (decide := true) only [E_X8_narrowed_0, E_X8_narrowed_1, E_X8_narrowed_4, E_X8_narrowed_36, E_X8_narrowed_37, E_X8_narrowed_38, E_X8_narrowed_39, E_X8_narrowed_40, E_X8_narrowed_41, E_X8_narrowed_42, E_X8_narrowed_43, E_X8_narrowed_44, E_X8_narrowed_45, E_X8_narrowed_46, E_X8_narrowed_47, E_X8_narrowed_48, E_X8_narrowed_49, E_X8_narrowed_50, E_X8_narrowed_51, E_X8_narrowed_52, E_X8_narrowed_53, E_X8_narrowed_54, E_X8_narrowed_55, E_X8_narrowed_58, E_X8_narrowed_59, E_X8_narrowed_62, E_X8_narrowed_63, tk_ok ht, tg_0 ht, hs, hv, nI_0, show nI 1 = 1 from rfl, show nI 2 = 2 from rfl, show nI 3 = 3 from rfl, show nI 4 = 4 from rfl, gnk_i, gnk_r, gnk_n, gi_1, Nat.reduceLT, if_true, if_false])
theorem m_narrow {k : Nat} (hk : k < 5) : gc_X w d 200 0 [some (.ref 137), some (.int (nI k)), some (.long v), none] [] (gm_m s) Q = Q (some (.long (a_nar (nI k) v))) (gm_m s) := by
  unfold a_nar
  have c : k = 0 ∨ k = 1 ∨ k = 2 ∨ k = 3 ∨ k = 4 := by omega
  by_cases hv : lg_cmp v 0 = 0 <;> (rcases c with rfl | rfl | rfl | rfl | rfl <;> simp (decide := true) only [E_X12_narrow_0, E_X12_narrow_1, E_X12_narrow_4, E_X12_narrow_5, E_X12_narrow_6, E_X12_narrow_7, E_X12_narrow_8, E_X12_narrow_11, E_X12_narrow_12, E_X12_narrow_13, E_X12_narrow_16, E_X12_narrow_17, E_X12_narrow_18, E_X12_narrow_19, E_X12_narrow_20, E_X12_narrow_23, E_X12_narrow_24, E_X12_narrow_25, E_X12_narrow_28, E_X12_narrow_29, E_X12_narrow_30, E_X12_narrow_31, E_X12_narrow_34, E_X12_narrow_35, E_X12_narrow_36, E_X12_narrow_39, E_X12_narrow_40, E_X12_narrow_41, E_X12_narrow_42, E_X12_narrow_45, E_X12_narrow_46, E_X12_narrow_49, E_X12_narrow_50, E_X12_narrow_53, E_X12_narrow_54, hv, nI_0, show nI 1 = 1 from rfl, show nI 2 = 2 from rfl, show nI 3 = 3 from rfl, show nI 4 = 4 from rfl, gnk_i, gnk_r, gnk_n, gi_1, Nat.reduceLT, if_true, if_false])
end
