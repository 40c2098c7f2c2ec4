section
variable {w : Nat × (Nat → Int32)} {d y f m : Nat} {s : gm_S} {p : gA} {Q : Option Value → gc_M → Prop} {x z : Int32}
/-- Yard.addCrane -/
theorem gy_addCrane (hR : gR s y f m p) (h6 : p.1.2.1 < 6) (hq : ∀ s', gy_FR y s s' → gR s' y f m (gA_addC p x z) → Q (some (.int (nI p.1.2.1))) (gm_m s')) : gc_X w d 54 0 [some (.ref y), some (.int x), some (.int z), none, none] [] (gm_m s) Q := by
  have hy := hR.1
  have h4 := hR.2.2.2.2.2.1
  have i3 : vp_in (nI p.1.2.1) 6 := vp_in_nI (by omega) (by omega)
  have i4 : (nI p.1.2.1).toNatClampNeg = p.1.2.1 := nI_clamp (by omega)
  have q1 := fun s => gm_ri_rok (yr_ri (s := s) hy h6)
  have q2 := fun s => gm_ri_rr (yr_ri (s := s) hy h6)
  rw [i4] at q2
  have f0 : vp_in 0 4 := by unfold vp_in; decide
  have f1 : vp_in 1 4 := by unfold vp_in; decide
  have f2 : vp_in 2 4 := by unfold vp_in; decide
  have f3 : vp_in 3 4 := by unfold vp_in; decide
  have e0 : (0 : Int32).toNatClampNeg = 0 := rfl
  have e1 : (1 : Int32).toNatClampNeg = 1 := rfl
  have e2 : (2 : Int32).toNatClampNeg = 2 := rfl
  have e3 : (3 : Int32).toNatClampNeg = 3 := rfl
  have n1 : (0 : Int32) + 1 = 1 := by decide
  have n2 : (1 : Int32) + 1 = 2 := by decide
  have n3 : (2 : Int32) + 1 = 3 := by decide
  have n4 : (3 : Int32) + 1 = 4 := by decide
  have l0 : ¬ (4 : Int32) ≤ 0 := by decide
  have l1 : ¬ (4 : Int32) ≤ 1 := by decide
  have l2 : ¬ (4 : Int32) ≤ 2 := by decide
  have l3 : ¬ (4 : Int32) ≤ 3 := by decide
  have l4 : (4 : Int32) ≤ 4 := by decide
  have ny : ∀ j, (y = y + 6 + j) = False := fun j => eq_false (by omega)
  simp only [E_X10_addCrane_0, E_X10_addCrane_1, E_X10_addCrane_4, E_X10_addCrane_5, E_X10_addCrane_6, E_X10_addCrane_9, E_X10_addCrane_10, E_X10_addCrane_11, E_X10_addCrane_12, E_X10_addCrane_13, E_X10_addCrane_16, E_X10_addCrane_17, E_X10_addCrane_18, E_X10_addCrane_19, E_X10_addCrane_20, E_X10_addCrane_23, E_X10_addCrane_24, E_X10_addCrane_25, E_X10_addCrane_26, E_X10_addCrane_27, E_X10_addCrane_29, E_X10_addCrane_31, E_X10_addCrane_32, E_X10_addCrane_35, E_X10_addCrane_36, E_X10_addCrane_39, E_X10_addCrane_40, E_X10_addCrane_41, E_X10_addCrane_43, E_X10_addCrane_44, E_X10_addCrane_45, E_X10_addCrane_48, E_X10_addCrane_51, E_X10_addCrane_52, E_X10_addCrane_53, E_X10_addCrane_56, E_X10_addCrane_57, E_X10_addCrane_58, E_X10_addCrane_61, E_X10_addCrane_62, gy_gok hy, yg_4 hy, yg_5 hy, yg_6 hy, yg_7 hy, yg_8 hy, yp_4 hy, h4, ya_2 hy, ys_2 hy, ya_3 hy, ys_3 hy, ya_4 hy, ys_4 hy, yr_a hy h6, yr_s hy h6, i3, i4, q1, q2, f0, f1, f2, f3, e0, e1, e2, e3, n1, n2, n3, n4, l0, l1, l2, l3, l4, Nat.reduceLT, gnk_i, gnk_n, gi_1, gsi_1, gn_ny, ny, false_and, if_false, if_true]
  rw [← nI_succ]
  have q := gR_set (o := 4) (j := p.1.2.1) (x := 0) (gR_set (o := 3) (j := p.1.2.1) (x := z) (gR_set (o := 2) (j := p.1.2.1) (x := x) hR (by decide) (by decide)) (by decide) (by decide)) (by decide) (by decide)
  have q := gR_set (o := 6 + p.1.2.1) (j := 3) (x := 0) (gR_set (o := 6 + p.1.2.1) (j := 2) (x := 0) (gR_set (o := 6 + p.1.2.1) (j := 1) (x := 0) (gR_set (o := 6 + p.1.2.1) (j := 0) (x := 0) q (by omega) (by omega)) (by omega) (by omega)) (by omega) (by omega)) (by omega) (by omega)
  simp only [Nat.add_assoc]
  refine hq _ (gy_FR_si (o := 0) (gy_FR_si (gy_FR_si (gy_FR_si (gy_FR_si (gy_FR_si (gy_FR_si (gy_FR_si gy_FR_refl (by decide)) (by decide)) (by decide)) (by omega)) (by omega)) (by omega)) (by omega)) (by decide)) (gR_nc q ?_ ?_ ?_ (fun j hj => ?_))
  · exact gE_set (gE_set (gE_set (gE_set (gE_set (gE_set gE_same)))))
  · exact gE_set (gE_set (gE_set (gE_set (gE_set gE_same))))
  · exact gE_set (gE_set (gE_set (gE_set gE_same)))
  · have ho : j = 0 ∨ j = 1 ∨ j = 2 ∨ j = 3 := by omega
    rcases ho with rfl | rfl | rfl | rfl
    · exact gE_set (gE_set (gE_set gE_same))
    · exact gE_set (gE_set gE_same)
    · exact gE_set gE_same
    · exact gE_same
theorem gA_addC_ok {k : Nat} (h : gA_ok p) (h6 : p.1.2.1 < 6) (hk : k < 7) : gA_ok (gA_addC p (nI k) z) := by
  refine ⟨by show p.1.2.1 + 1 ≤ 6; omega, h.2.1, h.2.2.1, fun c hc => ?_⟩
  have hc : c < p.1.2.1 + 1 := hc
  have e : ∀ q : gA, ∀ j, (gA_set q (6 + p.1.2.1) j 0).2.1 2 c = q.2.1 2 c := fun q j => by rw [gA_set_at, if_neg (fun e => by omega)]
  show ∃ k', k' < 7 ∧ (gA_addC0 p (nI k) z).2.1 2 c = nI k'
  unfold gA_addC0
  rw [e, e, e, e, gA_set_at, if_neg (fun e => by omega), gA_set_at, if_neg (fun e => by omega), gA_set_at]
  by_cases hh : c = p.1.2.1
  · exact ⟨k, hk, by rw [if_pos ⟨rfl, hh⟩]⟩
  · obtain ⟨k', h1, h2⟩ := h.2.2.2 c (by omega)
    exact ⟨k', h1, by rw [if_neg (fun e => hh e.2)]; exact h2⟩
theorem gA_addT_ok (h : gA_ok p) (h8 : p.1.2.2 < 8) : gA_ok (gA_addT p x z) := by
  refine ⟨h.1, by show p.1.2.2 + 1 ≤ 8; omega, h.2.2.1, ?_⟩
  exact (gA_ok_fresh (t := p.1.2.2) (x := 0) (gA_ok_set (o := 13) (j := p.1.2.2) (x := z) (gA_ok_set (o := 12) (j := p.1.2.2) (x := x) h (by decide)) (by decide))).2.2.2
end
