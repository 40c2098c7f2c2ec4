/-! what is asked, in the trial: on, down, sent -/
theorem gy_83 : gy_is 83 := Or.inl rfl
theorem gy_101 : gy_is 101 := Or.inr (Or.inl rfl)
theorem gy_119 : gy_is 119 := Or.inr (Or.inr rfl)
theorem gZ_tn : gZ 101 83 := ⟨gy_101, gy_83, by decide⟩
/-- all but the trial -/
def cT (s s' : gm_S) : Prop := s'.2.2 = s.2.2 ∧ (∀ b k, b ≠ 101 → s'.2.1 b k = s.2.1 b k) ∧ ∀ b j, b < 101 ∨ 118 < b → s'.1 b j = s.1 b j
theorem cT_refl {s : gm_S} : cT s s := ⟨rfl, fun _ _ _ => rfl, fun _ _ _ => rfl⟩
theorem cT_trans {s s' s2 : gm_S} (h : cT s s') (h2 : cT s' s2) : cT s s2 := ⟨h2.1.trans h.1, fun b k q => (h2.2.1 b k q).trans (h.2.1 b k q), fun b j q => (h2.2.2 b j q).trans (h.2.2 b j q)⟩
theorem cT_C {s s' : gm_S} {D : Nat → Nat → Prop} (h : gC s s' 101 83 D) : cT s s' := ⟨h.1, h.2.1, fun b j q => h.2.2.1 b j (by omega)⟩
theorem cT_F {s s' : gm_S} (h : gy_FR 101 s s') : cT s s' := ⟨by rw [h.1], fun b k _ => by rw [h.1], fun b j q => h.2 b j (by omega)⟩
theorem cT_si {s s' : gm_S} {a k : Nat} {x : Int32} (h : cT s s') (ha : 101 ≤ a ∧ a ≤ 118) : cT s (gm_si s' a k x) := by
  refine ⟨h.1, h.2.1, fun b j q => ?_⟩
  rw [gsi_1, if_neg (fun e => by omega)]
  exact h.2.2 b j q
/-- a yard told by the cells that it is told by -/
theorem gR_cg {s s' : gm_S} {y f m : Nat} {p : gA} (hR : gR s y f m p) (hk : p.1.2.1 ≤ 6) (h1 : s'.2.1 y 1 = s.2.1 y 1) (h2 : ∀ b j, (y ≤ b ∧ b ≤ y + 16) ∨ (f ≤ b ∧ b ≤ f + 3) → s'.1 b j = s.1 b j) : gR s' y f m p := by
  obtain ⟨hy, hf, e1, ho, e2, e4, e9, hA, hb, hh, hs⟩ := hR
  refine ⟨hy, hf, h1.trans e1, ⟨?_, ho.2.1, ?_⟩, ?_, ?_, ?_, ?_, ?_, ?_, ?_⟩
  · rw [h2 _ _ (by omega)]
    exact ho.1
  · intro i hi
    rw [h2 _ _ (by omega)]
    exact ho.2.2 i hi
  · rw [h2 _ _ (by omega)]
    exact e2
  · rw [h2 _ _ (by omega)]
    exact e4
  · rw [h2 _ _ (by omega)]
    exact e9
  · intro o j hj
    rw [h2 _ _ (by unfold gA_in at hj; omega)]
    exact hA o j hj
  · rw [h2 _ _ (by omega)]
    exact hb
  · rw [h2 _ _ (by omega)]
    exact hh
  · intro fx
    rw [gF_sum_cg (s := s) (fx := fx) ho (fun k i hk => h2 _ _ (by omega)) (fun _ _ => rfl)]
    exact hs fx
theorem gR_T {s s' : gm_S} {f m : Nat} {p : gA} (hR : gR s 83 f m p) (hk : p.1.2.1 ≤ 6) (h : cT s s') : gR s' 83 f m p := by
  have hf := gF_yard hR.2.1 gy_83
  exact gR_cg hR hk (h.2.1 83 1 (by decide)) (fun b j q => h.2.2 b j (by omega))
theorem gB_within {x y : Int32} : gB_in x 0 y = (!(decide (x < 0)) && !(decide (y < x))) := rfl
section
variable {w : Nat × (Nat → Int32)} {d t f m : Nat} {s : gm_S} {p : gA} {Q : Option Value → gc_M → Prop} {x y n : Int32}
theorem c_within : gc_X w d 98 0 [some (.int x), some (.int y)] [] (gm_m s) Q = Q (some (.int (gb_i (gB_in x 0 y)))) (gm_m s) := by
  by_cases h1 : x < 0 <;> by_cases h2 : y < x <;>
    simp only [E_X11_within_0, E_X11_within_1, E_X11_within_4, E_X11_within_5, E_X11_within_6, E_X11_within_9, E_X11_within_10, E_X11_within_13, E_X11_within_14, h1, h2, gB_within, gb_i, gb_n0, gb_n1, if_true, if_false, decide_true, decide_false, Bool.not_true, Bool.not_false, Bool.and_true, Bool.and_false, Bool.and_self, Bool.false_eq_true]
/-- the trial is as it is now -/
theorem c_copy (hR : gR s 83 f m p) (hk : gA_ok p) (hq : ∀ s', cT s s' → gR s' 83 f m p → gR s' 101 f m p → Q none (gm_m s')) : gc_X w d 57 0 [some (.ref 101), some (.ref 83), none] [] (gm_m s) Q :=
  gy_copy gZ_tn hR hk (fun s' D hC hR' => hq s' (cT_C hC) (gR_T hR hk.1 (cT_C hC)) hR')
theorem c_on2 {k : Nat} {l5 : Option Value} (hR : gR s 83 f m p) (hk : gA_ok p) (hh : p.1.1 ≤ 9999) (hk60 : k ≤ 60) (hx : (gB_in x 0 1 || gA_of p.1.2.2 (x - 10) || gA_of p.1.2.2 (x - 20)) = true) (hq : ∀ s', cT s s' → Q (some (.int (a_on p (nI k) x))) (gm_m s')) : gc_X w (d + 5) 77 60 [some (.ref 0), some (.int (nI k)), some (.int x), some (.int (gb_i (gB_in x 0 1))), some (.int (x - 10)), some (.int (x - 20))] [] (gm_m s) Q := by
  have k8 := hk.2.1
  have e60 : gB_in (nI k) 0 60 = true := gB_in_nI (k := 60) hk60 (by omega)
  have ek : (nI k).toNatClampNeg = k := nI_clamp (by omega)
  simp only [E_X11_on_60, E_X11_on_61, E_X11_on_64, E_X11_on_65, E_X11_on_68, rk_0, rg_0_0, rg_0_1, rc_101, List.map_nil, List.map_cons, List.sum_cons, List.sum_nil, gcat_i, gcat_r, gcat_l, Nat.reduceAdd, Nat.reduceLeDiff, Nat.zero_le, Option.toList, List.cons_append, List.nil_append, gnk_i, gnk_r, gnk_n, gi_1, Nat.reduceLT, if_true, if_false]
  refine c_copy hR hk (fun s1 hT1 hR1 hR1' => ?_)
  simp only [E_X11_on_71, E_X11_on_72, E_X11_on_75, E_X11_on_76, rk_0, rg_0_1, rc_101, List.map_nil, List.map_cons, List.sum_cons, List.sum_nil, gcat_i, gcat_r, gcat_l, Nat.reduceAdd, Nat.reduceLeDiff, Nat.zero_le, Option.toList, List.cons_append, List.nil_append, gnk_i, gnk_r, gnk_n, gi_1, Nat.reduceLT, if_true, if_false]
  refine gy_go hR1' hk (by omega) (fun s2 hF2 hR2 => ?_)
  have hT2 : cT s s2 := cT_trans hT1 (cT_F hF2)
  have gn : (gA_go k p).1 = (p.1.1 + k, p.1.2) := gA_go_n
  have gk : gA_ok (gA_go k p) := gA_go_ok hk (by omega)
  have hcn := fun (z : Int32) (Q : Option Value → gc_M → Prop) => gy_howMany (w := w) (d := d + 3) (z := z) (Q := Q) hR2 gk
  have hht := fun (z : Int32) (Q : Option Value → gc_M → Prop) => gy_hasThing (w := w) (d := d + 4) (x := z) (Q := Q) hR2
  rw [gn] at hht
  have hq := hq s2 hT2
  unfold a_on at hq
  rw [hx, e60, ek, if_neg (by decide), if_neg (by decide)] at hq
  cases b1 : gB_in x 0 1 with
  | true =>
    by_cases x0 : x = 0
    · rw [if_pos x0] at hq
      simp only [E_X11_on_0, E_X11_on_1, E_X11_on_2, E_X11_on_5, E_X11_on_6, E_X11_on_7, E_X11_on_9, E_X11_on_10, E_X11_on_12, E_X11_on_13, E_X11_on_15, E_X11_on_16, E_X11_on_18, E_X11_on_19, E_X11_on_22, E_X11_on_23, E_X11_on_26, E_X11_on_28, E_X11_on_31, E_X11_on_34, E_X11_on_35, E_X11_on_38, E_X11_on_40, E_X11_on_43, E_X11_on_46, E_X11_on_47, E_X11_on_48, E_X11_on_49, E_X11_on_51, E_X11_on_54, E_X11_on_57, E_X11_on_59, E_X11_on_60, E_X11_on_61, E_X11_on_64, E_X11_on_65, E_X11_on_68, E_X11_on_71, E_X11_on_72, E_X11_on_75, E_X11_on_76, E_X11_on_79, E_X11_on_80, E_X11_on_83, E_X11_on_84, E_X11_on_87, E_X11_on_88, E_X11_on_91, E_X11_on_92, E_X11_on_95, E_X11_on_96, E_X11_on_99, E_X11_on_100, E_X11_on_101, E_X11_on_104, E_X11_on_106, E_X11_on_109, E_X11_on_112, E_X11_on_113, E_X11_on_116, E_X11_on_119, E_X11_on_121, E_X11_on_122, E_X11_on_125, E_X11_on_126, E_X11_on_129, E_X11_on_132, E_X11_on_134, E_X11_on_135, rk_0, rg_0_1, rc_101, gb_1, g1_0, x0, hcn, List.map_nil, List.map_cons, List.sum_cons, List.sum_nil, gcat_i, gcat_r, gcat_l, Nat.reduceAdd, Nat.reduceLeDiff, Nat.zero_le, Option.toList, List.cons_append, List.nil_append, gnk_i, gnk_r, gnk_n, gi_1, Nat.reduceLT, if_true, if_false]
      exact hq
    · have x1 : x = 1 := by
        obtain ⟨j, hj, e⟩ := gB_in_ex (k := 1) b1 (by decide)
        have : j = 0 ∨ j = 1 := by omega
        rcases this with rfl | rfl
        · exact absurd e x0
        · exact e
      rw [if_neg x0, if_pos x1] at hq
      simp only [E_X11_on_0, E_X11_on_1, E_X11_on_2, E_X11_on_5, E_X11_on_6, E_X11_on_7, E_X11_on_9, E_X11_on_10, E_X11_on_12, E_X11_on_13, E_X11_on_15, E_X11_on_16, E_X11_on_18, E_X11_on_19, E_X11_on_22, E_X11_on_23, E_X11_on_26, E_X11_on_28, E_X11_on_31, E_X11_on_34, E_X11_on_35, E_X11_on_38, E_X11_on_40, E_X11_on_43, E_X11_on_46, E_X11_on_47, E_X11_on_48, E_X11_on_49, E_X11_on_51, E_X11_on_54, E_X11_on_57, E_X11_on_59, E_X11_on_60, E_X11_on_61, E_X11_on_64, E_X11_on_65, E_X11_on_68, E_X11_on_71, E_X11_on_72, E_X11_on_75, E_X11_on_76, E_X11_on_79, E_X11_on_80, E_X11_on_83, E_X11_on_84, E_X11_on_87, E_X11_on_88, E_X11_on_91, E_X11_on_92, E_X11_on_95, E_X11_on_96, E_X11_on_99, E_X11_on_100, E_X11_on_101, E_X11_on_104, E_X11_on_106, E_X11_on_109, E_X11_on_112, E_X11_on_113, E_X11_on_116, E_X11_on_119, E_X11_on_121, E_X11_on_122, E_X11_on_125, E_X11_on_126, E_X11_on_129, E_X11_on_132, E_X11_on_134, E_X11_on_135, rk_0, rg_0_1, rc_101, gb_1, g1_0, x1, hcn, List.map_nil, List.map_cons, List.sum_cons, List.sum_nil, gcat_i, gcat_r, gcat_l, Nat.reduceAdd, Nat.reduceLeDiff, Nat.zero_le, Option.toList, List.cons_append, List.nil_append, gnk_i, gnk_r, gnk_n, gi_1, Nat.reduceLT, if_true, if_false]
      exact hq
  | false =>
    have x0 : ¬ x = 0 := fun e => by
      rw [e] at b1
      exact absurd b1 (by decide)
    have x1 : ¬ x = 1 := fun e => by
      rw [e] at b1
      exact absurd b1 (by decide)
    rw [if_neg x0, if_neg x1] at hq
    cases b2 : gA_of p.1.2.2 (x - 10) with
    | true =>
      rw [b2, if_pos rfl] at hq
      obtain ⟨t, ht, e⟩ := gA_of_ex b2 (by omega)
      have i3 : vp_in (nI t) 8 := vp_in_nI (by omega) (by omega)
      have i4 : (nI t).toNatClampNeg = t := nI_clamp (by omega)
      have a14 : s2.1 115 t = (gA_go k p).2.1 14 t := hR2.2.2.2.2.2.2.2.1 14 t (Or.inr (Or.inr (Or.inr ⟨by omega, by omega, by rw [gn]; exact ht⟩)))
      rw [e, i4] at hq
      rw [e] at b2
      simp only [E_X11_on_0, E_X11_on_1, E_X11_on_2, E_X11_on_5, E_X11_on_6, E_X11_on_7, E_X11_on_9, E_X11_on_10, E_X11_on_12, E_X11_on_13, E_X11_on_15, E_X11_on_16, E_X11_on_18, E_X11_on_19, E_X11_on_22, E_X11_on_23, E_X11_on_26, E_X11_on_28, E_X11_on_31, E_X11_on_34, E_X11_on_35, E_X11_on_38, E_X11_on_40, E_X11_on_43, E_X11_on_46, E_X11_on_47, E_X11_on_48, E_X11_on_49, E_X11_on_51, E_X11_on_54, E_X11_on_57, E_X11_on_59, E_X11_on_60, E_X11_on_61, E_X11_on_64, E_X11_on_65, E_X11_on_68, E_X11_on_71, E_X11_on_72, E_X11_on_75, E_X11_on_76, E_X11_on_79, E_X11_on_80, E_X11_on_83, E_X11_on_84, E_X11_on_87, E_X11_on_88, E_X11_on_91, E_X11_on_92, E_X11_on_95, E_X11_on_96, E_X11_on_99, E_X11_on_100, E_X11_on_101, E_X11_on_104, E_X11_on_106, E_X11_on_109, E_X11_on_112, E_X11_on_113, E_X11_on_116, E_X11_on_119, E_X11_on_121, E_X11_on_122, E_X11_on_125, E_X11_on_126, E_X11_on_129, E_X11_on_132, E_X11_on_134, E_X11_on_135, rk_0, rk_101, rg_0_1, rc_101, rg_101_12, ra_115, rv_115, gb_0, gb_1, g1_0, e, hht, b2, i3, i4, a14, List.map_nil, List.map_cons, List.sum_cons, List.sum_nil, gcat_i, gcat_r, gcat_l, Nat.reduceAdd, Nat.reduceLeDiff, Nat.zero_le, Option.toList, List.cons_append, List.nil_append, gnk_i, gnk_r, gnk_n, gi_1, Nat.reduceLT, if_true, if_false]
      exact hq
    | false =>
      rw [b2, if_neg (by decide)] at hq
      have b3 : gA_of p.1.2.2 (x - 20) = true := by
        rw [b1, b2] at hx
        exact hx
      obtain ⟨t, ht, e⟩ := gA_of_ex b3 (by omega)
      have i3 : vp_in (nI t) 8 := vp_in_nI (by omega) (by omega)
      have i4 : (nI t).toNatClampNeg = t := nI_clamp (by omega)
      have a15 : s2.1 116 t = (gA_go k p).2.1 15 t := hR2.2.2.2.2.2.2.2.1 15 t (Or.inr (Or.inr (Or.inr ⟨by omega, by omega, by rw [gn]; exact ht⟩)))
      rw [e, i4] at hq
      simp only [E_X11_on_0, E_X11_on_1, E_X11_on_2, E_X11_on_5, E_X11_on_6, E_X11_on_7, E_X11_on_9, E_X11_on_10, E_X11_on_12, E_X11_on_13, E_X11_on_15, E_X11_on_16, E_X11_on_18, E_X11_on_19, E_X11_on_22, E_X11_on_23, E_X11_on_26, E_X11_on_28, E_X11_on_31, E_X11_on_34, E_X11_on_35, E_X11_on_38, E_X11_on_40, E_X11_on_43, E_X11_on_46, E_X11_on_47, E_X11_on_48, E_X11_on_49, E_X11_on_51, E_X11_on_54, E_X11_on_57, E_X11_on_59, E_X11_on_60, E_X11_on_61, E_X11_on_64, E_X11_on_65, E_X11_on_68, E_X11_on_71, E_X11_on_72, E_X11_on_75, E_X11_on_76, E_X11_on_79, E_X11_on_80, E_X11_on_83, E_X11_on_84, E_X11_on_87, E_X11_on_88, E_X11_on_91, E_X11_on_92, E_X11_on_95, E_X11_on_96, E_X11_on_99, E_X11_on_100, E_X11_on_101, E_X11_on_104, E_X11_on_106, E_X11_on_109, E_X11_on_112, E_X11_on_113, E_X11_on_116, E_X11_on_119, E_X11_on_121, E_X11_on_122, E_X11_on_125, E_X11_on_126, E_X11_on_129, E_X11_on_132, E_X11_on_134, E_X11_on_135, rk_0, rk_101, rg_0_1, rc_101, rg_101_13, ra_116, rv_116, gb_0, gb_1, g1_0, e, hht, b2, i3, i4, a15, List.map_nil, List.map_cons, List.sum_cons, List.sum_nil, gcat_i, gcat_r, gcat_l, Nat.reduceAdd, Nat.reduceLeDiff, Nat.zero_le, Option.toList, List.cons_append, List.nil_append, gnk_i, gnk_r, gnk_n, gi_1, Nat.reduceLT, if_true, if_false]
      exact hq
theorem c_on (hR : gR s 83 f m p) (hk : gA_ok p) (hh : p.1.1 ≤ 9999) (hq : ∀ s', cT s s' → Q (some (.int (a_on p n x))) (gm_m s')) : gc_X w (d + 5) 77 0 [some (.ref 0), some (.int n), some (.int x), none, none, none] [] (gm_m s) Q := by
  have hw := fun (a b : Int32) (Q : Option Value → gc_M → Prop) => c_within (w := w) (d := d + 4) (s := s) (x := a) (y := b) (Q := Q)
  have hht := fun (z : Int32) (Q : Option Value → gc_M → Prop) => gy_hasThing (w := w) (d := d + 4) (x := z) (Q := Q) hR
  have hx : ∀ b, (gB_in x 0 1 || gA_of p.1.2.2 (x - 10) || gA_of p.1.2.2 (x - 20)) = b → gc_X w (d + 5) 77 0 [some (.ref 0), some (.int n), some (.int x), none, none, none] [] (gm_m s) Q = if b = true then gc_X w (d + 5) 77 48 [some (.ref 0), some (.int n), some (.int x), some (.int (gb_i (gB_in x 0 1))), some (.int (x - 10)), some (.int (x - 20))] [] (gm_m s) Q else Q (some (.int (-1))) (gm_m s) := by
    intro b hb
    subst hb
    cases b1 : gB_in x 0 1 <;> cases b2 : gA_of p.1.2.2 (x - 10) <;> cases b3 : gA_of p.1.2.2 (x - 20) <;>
      simp only [E_X11_on_0, E_X11_on_1, E_X11_on_2, E_X11_on_5, E_X11_on_6, E_X11_on_7, E_X11_on_9, E_X11_on_10, E_X11_on_12, E_X11_on_13, E_X11_on_15, E_X11_on_16, E_X11_on_18, E_X11_on_19, E_X11_on_22, E_X11_on_23, E_X11_on_26, E_X11_on_28, E_X11_on_31, E_X11_on_34, E_X11_on_35, E_X11_on_38, E_X11_on_40, E_X11_on_43, E_X11_on_46, E_X11_on_47, E_X11_on_49, E_X11_on_51, E_X11_on_54, E_X11_on_57, E_X11_on_59, E_X11_on_60, E_X11_on_61, E_X11_on_64, E_X11_on_65, E_X11_on_68, E_X11_on_71, E_X11_on_72, E_X11_on_75, E_X11_on_76, E_X11_on_79, E_X11_on_80, E_X11_on_83, E_X11_on_84, E_X11_on_87, E_X11_on_88, E_X11_on_91, E_X11_on_92, E_X11_on_95, E_X11_on_96, E_X11_on_99, E_X11_on_100, E_X11_on_101, E_X11_on_104, E_X11_on_106, E_X11_on_109, E_X11_on_112, E_X11_on_113, E_X11_on_116, E_X11_on_119, E_X11_on_121, E_X11_on_122, E_X11_on_125, E_X11_on_126, E_X11_on_129, E_X11_on_132, E_X11_on_134, E_X11_on_135, rk_0, rg_0_0, rc_83, hw, hht, b1, b2, b3, gb_0, gb_1, g1_0, Bool.or_true, Bool.or_false, Bool.false_eq_true, List.map_nil, List.map_cons, List.sum_cons, List.sum_nil, gcat_i, gcat_r, gcat_l, Nat.reduceAdd, Nat.reduceLeDiff, Nat.zero_le, Option.toList, List.cons_append, List.nil_append, gnk_i, gnk_r, gnk_n, gi_1, Nat.reduceLT, if_true, if_false]
  cases hb : (gB_in x 0 1 || gA_of p.1.2.2 (x - 10) || gA_of p.1.2.2 (x - 20)) with
  | false =>
    rw [hx _ hb]
    unfold a_on at hq
    rw [hb, if_pos rfl] at hq
    exact hq s cT_refl
  | true =>
    rw [hx _ hb, if_pos rfl]
    cases hn : gB_in n 0 60 with
    | false =>
      unfold a_on at hq
      rw [hb, hn, if_neg (by decide), if_pos rfl] at hq
      simp only [E_X11_on_48, E_X11_on_49, E_X11_on_51, E_X11_on_54, E_X11_on_57, E_X11_on_59, hw, hn, gb_0, List.map_nil, List.map_cons, List.sum_cons, List.sum_nil, gcat_i, gcat_r, gcat_l, Nat.reduceAdd, Nat.reduceLeDiff, Nat.zero_le, Option.toList, List.cons_append, List.nil_append, gnk_i, gnk_r, gnk_n, gi_1, Nat.reduceLT, if_true, if_false]
      exact hq s cT_refl
    | true =>
      obtain ⟨k, hk60, e⟩ := gB_in_ex (k := 60) hn (by decide)
      subst e
      simp only [E_X11_on_48, E_X11_on_49, E_X11_on_51, E_X11_on_54, hw, hn, gb_1, g1_0, List.map_nil, List.map_cons, List.sum_cons, List.sum_nil, gcat_i, gcat_r, gcat_l, Nat.reduceAdd, Nat.reduceLeDiff, Nat.zero_le, Option.toList, List.cons_append, List.nil_append, gnk_i, gnk_r, gnk_n, gi_1, Nat.reduceLT, if_true, if_false]
      exact c_on2 (l5 := none) hR hk hh hk60 hb hq
end
