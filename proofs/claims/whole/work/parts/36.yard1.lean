/-! a yard told apart from the memory: hour, cranes, things; the rows of numbers (1 winds, 2 kinds, 3 vs, 4 lifts, 6… rows, 12 griefs, 13 sents, 14 states, 15 swings, 16 times, 17 bear and hang); what the firm makes of the facts -/
def gA : Type := (Nat × Nat × Nat) × (Nat → Nat → Int32) × ((Nat → Int32) → Int32)
def gA_in (p : gA) (o j : Nat) : Prop := (o = 1 ∧ j < 4) ∨ ((o = 2 ∨ o = 3 ∨ o = 4) ∧ j < p.1.2.1) ∨ (6 ≤ o ∧ o < 6 + p.1.2.1 ∧ j < 4) ∨ (12 ≤ o ∧ o ≤ 16 ∧ j < p.1.2.2)
/-- the facts -/
def gA_fx (p : gA) (c t : Nat) : Nat → Int32 := fun j => match j with
  | 0 => nI c
  | 1 => p.2.1 2 c
  | 2 => p.2.1 3 c
  | 3 => nI t
  | 4 => p.2.1 12 t / 10
  | _ => nI p.1.1 - nI p.1.1 / 10 * 10
def gA_jib (p : gA) (n : Int32) (c : Nat) : Int32 := n + p.2.1 3 c
def gA_std (p : gA) (n : Int32) (c : Nat) : Int32 := if p.2.1 1 (p.1.1 % 4) ≤ p.2.1 3 c then n else 0
def gA_kp (p : gA) (k : Nat) (n : Int32) (c t : Nat) : Int32 := match k with
  | 0 => n
  | 1 => gA_jib p n c
  | 2 => gk_old n
  | 3 => gA_std p n c
  | 4 => if p.2.1 12 t < 50 then gA_jib p n c else 2 * gA_jib p n c
  | 5 => gk_old n - (if p.2.1 4 c < 9 then p.2.1 4 c else 9)
  | _ => gA_std p n c + p.2.1 (6 + c) (t % 4)
/-- POWER -/
def gA_pow (p : gA) (c t : Nat) : Int32 := gA_kp p (p.2.1 2 c).toNatClampNeg (p.2.2 (gA_fx p c t)) c t
/-- what a yard keeps to -/
def gA_ok (p : gA) : Prop := p.1.2.1 ≤ 6 ∧ p.1.2.2 ≤ 8 ∧ p.1.1 < 2 ^ 30 ∧ ∀ c, c < p.1.2.1 → ∃ k, k < 7 ∧ p.2.1 2 c = nI k
/-- yard y of the memory, with the firm f of m steps, is the yard p -/
def gR (s : gm_S) (y f m : Nat) (p : gA) : Prop := gy_is y ∧ gF_is f ∧ s.2.1 y 1 = some f ∧ gF_ok s f m ∧ s.1 y 2 = nI p.1.1 ∧ s.1 y 4 = nI p.1.2.1 ∧ s.1 y 9 = nI p.1.2.2 ∧ (∀ o j, gA_in p o j → s.1 (y + o) j = p.2.1 o j) ∧ s.1 f 0 = p.2.1 17 0 ∧ s.1 f 1 = p.2.1 17 1 ∧ ∀ fx, gF_sum s f m fx = p.2.2 fx
/-- only the facts of yard y differ -/
def gy_fr (y : Nat) (s s' : gm_S) : Prop := s'.2 = s.2 ∧ ∀ b j, b ≠ y + 17 → s'.1 b j = s.1 b j
theorem gF_so_cg {s s' : gm_S} {f i : Nat} {fx fy : Nat → Int32} (h1 : s'.1 (f + 1) i = s.1 (f + 1) i) (h2 : s'.1 (f + 2) i = s.1 (f + 2) i) (h3 : s'.1 (f + 3) i = s.1 (f + 3) i) (hx : fy (s.1 (f + 2) i).toNatClampNeg = fx (s.1 (f + 2) i).toNatClampNeg) : gF_so s' f fy i = gF_so s f fx i := by
  unfold gF_so
  rw [h1, h2, h3, hx]
theorem gF_sts_cg {s s' : gm_S} {f m : Nat} {fx fy : Nat → Int32} (h1 : ∀ i, i < m → s'.1 (f + 1) i = s.1 (f + 1) i) (h2 : ∀ i, i < m → s'.1 (f + 2) i = s.1 (f + 2) i) (h3 : ∀ i, i < m → s'.1 (f + 3) i = s.1 (f + 3) i) (hx : ∀ i, i < m → fy (s.1 (f + 2) i).toNatClampNeg = fx (s.1 (f + 2) i).toNatClampNeg) : ∀ (n i : Nat) (q : Int32 × Int32), i + n = m → gF_sts s' f fy n i q = gF_sts s f fx n i q
  | 0, i, q, _ => rfl
  | n + 1, i, q, e => by
    have hi : i < m := by omega
    have e1 : gF_st s' f fy i q = gF_st s f fx i q := by
      unfold gF_st
      rw [h1 i hi, h3 i hi, gF_so_cg (h1 i hi) (h2 i hi) (h3 i hi) (hx i hi)]
    rw [gF_sts, gF_sts, e1]
    exact gF_sts_cg h1 h2 h3 hx n (i + 1) _ (by omega)
theorem gF_sum_cg {s s' : gm_S} {f m : Nat} {fx fy : Nat → Int32} (ho : gF_ok s f m) (h : ∀ k i, k < 3 → s'.1 (f + (k + 1)) i = s.1 (f + (k + 1)) i) (hx : ∀ j, j < 6 → fy j = fx j) : gF_sum s' f m fy = gF_sum s f m fx := by
  unfold gF_sum
  rw [gF_sts_cg (m := m) (s := s) (fx := fx) (fun i _ => h 0 i (by omega)) (fun i _ => h 1 i (by omega)) (fun i _ => h 2 i (by omega)) (fun i hi => hx _ ?_) m 0 _ (by omega)]
  have := ho.2.2 i hi
  unfold vp_in at this
  omega
theorem gF_yard {f y : Nat} (hf : gF_is f) (hy : gy_is y) : f + 3 < y := by
  unfold gF_is at hf
  unfold gy_is at hy
  omega
theorem gR_fr {s s' : gm_S} {y f m : Nat} {p : gA} (hR : gR s y f m p) (hk : p.1.2.1 ≤ 6) (h : gy_fr y s s') : gR s' y f m p := by
  obtain ⟨hy, hf, h1, ho, h2, h4, h9, hA, hb, hh, hs⟩ := hR
  obtain ⟨e, he⟩ := h
  have hl := gF_yard hf hy
  refine ⟨hy, hf, by rw [e]; exact h1, ⟨?_, ho.2.1, ?_⟩, ?_, ?_, ?_, ?_, ?_, ?_, ?_⟩
  · rw [he _ _ (by omega)]
    exact ho.1
  · intro i hi
    rw [he _ _ (by omega)]
    exact ho.2.2 i hi
  · rw [he _ _ (by omega)]
    exact h2
  · rw [he _ _ (by omega)]
    exact h4
  · rw [he _ _ (by omega)]
    exact h9
  · intro o j hj
    rw [he _ _ (by unfold gA_in at hj; omega)]
    exact hA o j hj
  · rw [he _ _ (by omega)]
    exact hb
  · rw [he _ _ (by omega)]
    exact hh
  · intro fx
    rw [gF_sum_cg (s := s) (fx := fx) ho (fun k i hk => he _ _ (by omega)) (fun _ _ => rfl)]
    exact hs fx
theorem gsi_1 {s : gm_S} {a k b j : Nat} {x : Int32} : (gm_si s a k x).1 b j = if b = a ∧ j = k then x else s.1 b j := rfl
theorem gsi_2 {s : gm_S} {a k : Nat} {x : Int32} : (gm_si s a k x).2 = s.2 := rfl
theorem gy_fr_refl {y : Nat} {s : gm_S} : gy_fr y s s := ⟨rfl, fun _ _ _ => rfl⟩
theorem gy_fr_si {y k : Nat} {s s' : gm_S} {x : Int32} (h : gy_fr y s s') : gy_fr y s (gm_si s' (y + 17) k x) := by
  refine ⟨by rw [gsi_2]; exact h.1, fun b j hb => ?_⟩
  rw [gsi_1, if_neg (fun e => hb e.1)]
  exact h.2 b j hb
theorem gy_fr_trans {y : Nat} {s s' s2 : gm_S} (h : gy_fr y s s') (h2 : gy_fr y s' s2) : gy_fr y s s2 := ⟨h2.1.trans h.1, fun b j hb => (h2.2 b j hb).trans (h.2 b j hb)⟩
theorem gn_ny {y k : Nat} : (y = y + (k + 1)) = False := by
  simp
theorem va_rf_some {r : Nat} : va_rf (some r) = .ref r := Eq.trans rfl rfl
/-- the facts written -/
def gy_fx (s : gm_S) (y : Nat) (a b c d e h : Int32) : gm_S := gm_si (gm_si (gm_si (gm_si (gm_si (gm_si s (y + 17) 0 a) (y + 17) 1 b) (y + 17) 2 c) (y + 17) 3 d) (y + 17) 4 e) (y + 17) 5 h
theorem gy_fx_fr {s : gm_S} {y : Nat} {a b c d e h : Int32} : gy_fr y s (gy_fx s y a b c d e h) := gy_fr_si (gy_fr_si (gy_fr_si (gy_fr_si (gy_fr_si (gy_fr_si gy_fr_refl)))))
theorem gy_fx_at {s : gm_S} {y j : Nat} {p : gA} {c t : Nat} (hj : j < 6) : (gy_fx s y (nI c) (p.2.1 2 c) (p.2.1 3 c) (nI t) (p.2.1 12 t / 10) (nI p.1.1 - nI p.1.1 / 10 * 10)).1 (y + 17) j = gA_fx p c t j := by
  unfold gy_fx
  match j, hj with
  | 0, _ => simp [gsi_1, gA_fx]
  | 1, _ => simp [gsi_1, gA_fx]
  | 2, _ => simp [gsi_1, gA_fx]
  | 3, _ => simp [gsi_1, gA_fx]
  | 4, _ => simp [gsi_1, gA_fx]
  | 5, _ => simp [gsi_1, gA_fx]
section
variable {w : Nat × (Nat → Int32)} {d y c t f m : Nat} {s : gm_S} {p : gA} {Q : Option Value → gc_M → Prop}
theorem gy_power1 (hR : gR s y f m p) (hk : gA_ok p) (hc : c < p.1.2.1) (ht : t < p.1.2.2) : gc_X w d 61 0 [some (.ref y), some (.int (nI c)), some (.int (nI t)), none] [] (gm_m s) Q = gc_X w d 61 68 [some (.ref y), some (.int (nI c)), some (.int (nI t)), some (.int (p.2.1 2 c))] [] (gm_m (gy_fx s y (nI c) (p.2.1 2 c) (p.2.1 3 c) (nI t) (p.2.1 12 t / 10) (nI p.1.1 - nI p.1.1 / 10 * 10))) Q := by
  obtain ⟨hy, hf, h1, ho, h2, h4, h9, hA, hb, hh, hs⟩ := hR
  have hk1 := hk.1
  have hk2 := hk.2.1
  have i1 : vp_in (nI c) 6 := vp_in_nI (by omega) (by omega)
  have i2 : (nI c).toNatClampNeg = c := nI_clamp (by omega)
  have i3 : vp_in (nI t) 8 := vp_in_nI (by omega) (by omega)
  have i4 : (nI t).toNatClampNeg = t := nI_clamp (by omega)
  have a2 := hA 2 c (Or.inr (Or.inl ⟨Or.inl rfl, hc⟩))
  have a3 := hA 3 c (Or.inr (Or.inl ⟨Or.inr (Or.inl rfl), hc⟩))
  have a12 := hA 12 t (Or.inr (Or.inr (Or.inr ⟨by omega, by omega, ht⟩)))
  have f0 : vp_in 0 6 := by unfold vp_in; decide
  have f1 : vp_in 1 6 := by unfold vp_in; decide
  have f2 : vp_in 2 6 := by unfold vp_in; decide
  have f3 : vp_in 3 6 := by unfold vp_in; decide
  have f4 : vp_in 4 6 := by unfold vp_in; decide
  have f5 : vp_in 5 6 := by unfold vp_in; decide
  have e0 : (0 : Int32).toNatClampNeg = 0 := rfl
  have e1 : (1 : Int32).toNatClampNeg = 1 := rfl
  have e2 : (2 : Int32).toNatClampNeg = 2 := rfl
  have e3 : (3 : Int32).toNatClampNeg = 3 := rfl
  have e4 : (4 : Int32).toNatClampNeg = 4 := rfl
  have e5 : (5 : Int32).toNatClampNeg = 5 := rfl
  have n10 : ¬ (10 : Int32) = 0 := by decide
  simp only [E_X10_power_0, E_X10_power_1, E_X10_power_4, E_X10_power_5, E_X10_power_6, E_X10_power_7, E_X10_power_8, E_X10_power_11, E_X10_power_12, E_X10_power_13, E_X10_power_14, E_X10_power_15, E_X10_power_18, E_X10_power_19, E_X10_power_20, E_X10_power_21, E_X10_power_22, E_X10_power_25, E_X10_power_26, E_X10_power_27, E_X10_power_30, E_X10_power_31, E_X10_power_32, E_X10_power_33, E_X10_power_34, E_X10_power_37, E_X10_power_38, E_X10_power_39, E_X10_power_40, E_X10_power_41, E_X10_power_44, E_X10_power_45, E_X10_power_46, E_X10_power_49, E_X10_power_50, E_X10_power_51, E_X10_power_53, E_X10_power_54, E_X10_power_55, E_X10_power_56, E_X10_power_59, E_X10_power_60, E_X10_power_61, E_X10_power_64, E_X10_power_66, E_X10_power_67, E_X10_power_69, E_X10_power_72, E_X10_power_73, E_X10_power_74, E_X10_power_75, E_X10_power_78, E_X10_power_79, E_X10_power_82, E_X10_power_85, E_X10_power_86, E_X10_power_87, E_X10_power_88c0, E_X10_power_88c2, E_X10_power_88c3, E_X10_power_88c4, E_X10_power_88c6, E_X10_power_88c7, E_X10_power_88c9, E_X10_power_91, gy_gok hy, yg_5 hy, yg_15 hy, yg_6 hy, yg_10 hy, yg_2 hy, ya_2 hy, yv_2 hy, ya_3 hy, yv_3 hy, ya_12 hy, yv_12 hy, ya_17 hy, ys_17 hy, gsi_1, gn_ny, Nat.add_left_cancel_iff, Nat.reduceEqDiff, false_and, if_false, i1, i2, i3, i4, a2, a3, a12, h2, f0, f1, f2, f3, f4, f5, e0, e1, e2, e3, e4, e5, n10, not_false_eq_true, Nat.reduceLT, gnk_i, gy_fx]
theorem gk_cl {k : Nat} (hk : k < 7) : gm_obj (gm_m s) (65 + 2 * k) = true := by
  match k, hk with | 0, _ => rfl | 1, _ => rfl | 2, _ => rfl | 3, _ => rfl | 4, _ => rfl | 5, _ => rfl | 6, _ => rfl
/-- a kind's pow, told of the yard -/
theorem gk_kp {k : Nat} {n : Int32} (hR : gR s y f m p) (hk : gA_ok p) (hc : c < p.1.2.1) (ht : t < p.1.2.2) : gk_pow s y p.1.1 k n c t = gA_kp p k n c t := by
  obtain ⟨hy, hf, h1, ho, h2, h4, h9, hA, hb, hh, hs⟩ := hR
  have a1 := hA 1 (p.1.1 % 4) (Or.inl ⟨rfl, by omega⟩)
  have a3 := hA 3 c (Or.inr (Or.inl ⟨Or.inr (Or.inl rfl), hc⟩))
  have a4 := hA 4 c (Or.inr (Or.inl ⟨Or.inr (Or.inr rfl), hc⟩))
  have a6 := hA (6 + c) (t % 4) (Or.inr (Or.inr (Or.inl ⟨by omega, by omega, by omega⟩)))
  have a12 := hA 12 t (Or.inr (Or.inr (Or.inr ⟨by omega, by omega, ht⟩)))
  rw [← Nat.add_assoc] at a6
  unfold gk_pow gA_kp gk_jib gA_jib gk_std gA_std
  rw [a1, a3, a4, a6, a12]
  match k with | 0 => rfl | 1 => rfl | 2 => rfl | 3 => rfl | 4 => rfl | 5 => rfl | _ + 6 => rfl
theorem gy_power2 {k : Nat} {x : Int32} (hR : gR s y f m p) (hk : gA_ok p) (hc : c < p.1.2.1) (ht : t < p.1.2.2) (hk7 : k < 7) (hx : x = nI k) : gc_X w (d + 2) 61 68 [some (.ref y), some (.int (nI c)), some (.int (nI t)), some (.int x)] [] (gm_m s) Q = Q (some (.int (gA_kp p k (gF_sum s f m (s.1 (y + 17))) c t))) (gm_m s) := by
  have hkp := fun n => gk_kp (k := k) (n := n) hR hk hc ht
  obtain ⟨hy, hf, h1, ho, h2, h4, h9, hA, hb, hh, hs⟩ := hR
  subst hx
  have hk1 := hk.1
  have hk2 := hk.2.1
  have hk3 := hk.2.2.1
  have c6 : c < 6 := by omega
  have t8 : t < 8 := by omega
  have ee : (nI k).toNatClampNeg = k := nI_clamp (by omega)
  have q1 := gm_ri_rok (yk_ri (s := s) hk7)
  have q2 := gm_ri_rr (yk_ri (s := s) hk7)
  have q3 := gk_cl (s := s) hk7
  rw [ee] at q2
  have q5 := fun (Q : Option Value → gc_M → Prop) => gF_sumX (w := w) (d := d) (Q := Q) hf hy ho
  have e : gc_X w (d + 2) 61 68 [some (.ref y), some (.int (nI c)), some (.int (nI t)), some (.int (nI k))] [] (gm_m s) Q = gc_X w (d + 2) 61 88 [some (.ref y), some (.int (nI c)), some (.int (nI t)), some (.int (nI k))] [.int (nI t), .int (nI c), .ref y, .int (gF_sum s f m (s.1 (y + 17))), .ref (65 + 2 * k)] (gm_m s) Q := by
    simp only [E_X10_power_0, E_X10_power_1, E_X10_power_4, E_X10_power_5, E_X10_power_6, E_X10_power_7, E_X10_power_8, E_X10_power_11, E_X10_power_12, E_X10_power_13, E_X10_power_14, E_X10_power_15, E_X10_power_18, E_X10_power_19, E_X10_power_20, E_X10_power_21, E_X10_power_22, E_X10_power_25, E_X10_power_26, E_X10_power_27, E_X10_power_30, E_X10_power_31, E_X10_power_32, E_X10_power_33, E_X10_power_34, E_X10_power_37, E_X10_power_38, E_X10_power_39, E_X10_power_40, E_X10_power_41, E_X10_power_44, E_X10_power_45, E_X10_power_46, E_X10_power_49, E_X10_power_50, E_X10_power_51, E_X10_power_53, E_X10_power_54, E_X10_power_55, E_X10_power_56, E_X10_power_59, E_X10_power_60, E_X10_power_61, E_X10_power_64, E_X10_power_66, E_X10_power_67, E_X10_power_68, E_X10_power_69, E_X10_power_72, E_X10_power_73, E_X10_power_74, E_X10_power_75, E_X10_power_78, E_X10_power_79, E_X10_power_82, E_X10_power_85, E_X10_power_86, E_X10_power_87, E_X10_power_91, gy_gok hy, yg_0 hy, yg_1 hy, yg_15 hy, h1, va_rf_some, gF_cl hf, q1, q2, ee, q5, Nat.reduceLT, List.map_nil, List.map_cons, List.sum_cons, List.sum_nil, gcat_i, gcat_r, Nat.reduceAdd, Nat.reduceLeDiff, Nat.zero_le, Option.toList, List.cons_append, List.nil_append]
  rw [e, ← hkp]
  match k, hk7 with
  | 0, _ => rw [E_X10_power_88c0 rfl (by decide), gk_0]; simp only [Option.toList, List.cons_append, List.nil_append, E_X10_power_91, gk_pow]
  | 1, _ => rw [E_X10_power_88c3 rfl (by decide), gk_1 hy c6]; simp only [Option.toList, List.cons_append, List.nil_append, E_X10_power_91, gk_pow]
  | 2, _ => rw [E_X10_power_88c4 rfl (by decide), gk_2]; simp only [Option.toList, List.cons_append, List.nil_append, E_X10_power_91, gk_pow]
  | 3, _ => rw [E_X10_power_88c7 rfl (by decide), gk_3 hy c6 h2 (by omega)]; simp only [Option.toList, List.cons_append, List.nil_append, E_X10_power_91, gk_pow]
  | 4, _ => rw [E_X10_power_88c2 rfl (by decide), gk_4 (h := p.1.1) hy c6 t8 rfl]; simp only [Option.toList, List.cons_append, List.nil_append, E_X10_power_91]
  | 5, _ => rw [E_X10_power_88c6 rfl (by decide), gk_5 (h := p.1.1) hy c6 rfl]; simp only [Option.toList, List.cons_append, List.nil_append, E_X10_power_91]
  | 6, _ => rw [E_X10_power_88c9 rfl (by decide), gk_6 hy c6 t8 h2 (by omega) rfl]; simp only [Option.toList, List.cons_append, List.nil_append, E_X10_power_91]
/-- Yard.power -/
theorem gy_power (hR : gR s y f m p) (hk : gA_ok p) (hc : c < p.1.2.1) (ht : t < p.1.2.2) (hq : ∀ s', gy_fr y s s' → gR s' y f m p → Q (some (.int (gA_pow p c t))) (gm_m s')) : gc_X w (d + 2) 61 0 [some (.ref y), some (.int (nI c)), some (.int (nI t)), none] [] (gm_m s) Q := by
  obtain ⟨k, hk7, ek⟩ := hk.2.2.2 c hc
  rw [gy_power1 hR hk hc ht]
  have hfr := gy_fx_fr (s := s) (y := y) (a := nI c) (b := p.2.1 2 c) (c := p.2.1 3 c) (d := nI t) (e := p.2.1 12 t / 10) (h := nI p.1.1 - nI p.1.1 / 10 * 10)
  have hR2 := gR_fr hR hk.1 hfr
  rw [gy_power2 hR2 hk hc ht hk7 ek]
  have e : gA_pow p c t = gA_kp p k (gF_sum (gy_fx s y (nI c) (p.2.1 2 c) (p.2.1 3 c) (nI t) (p.2.1 12 t / 10) (nI p.1.1 - nI p.1.1 / 10 * 10)) f m ((gy_fx s y (nI c) (p.2.1 2 c) (p.2.1 3 c) (nI t) (p.2.1 12 t / 10) (nI p.1.1 - nI p.1.1 / 10 * 10)).1 (y + 17))) c t := by
    unfold gA_pow
    have e1 : (p.2.1 2 c).toNatClampNeg = k := by rw [ek, nI_clamp (by omega : k < 2 ^ 31)]
    rw [e1]
    refine congrArg (fun n => gA_kp p k n c t) ?_
    exact (hR2.2.2.2.2.2.2.2.2.2.2 (gA_fx p c t)).symm.trans (gF_sum_cg hR2.2.2.2.1 (fun _ _ _ => rfl) (fun j hj => (gy_fx_at (s := s) (y := y) (p := p) (c := c) (t := t) hj).symm))
  rw [← e]
  exact hq _ hfr hR2
end
