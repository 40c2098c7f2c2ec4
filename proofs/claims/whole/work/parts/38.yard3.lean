/-! a thing that hangs, an hour on -/
def gA_land (p : gA) (c t : Nat) : gA := if p.2.1 15 t ≤ p.2.1 17 0 then (if p.2.1 16 t < p.2.1 17 1 then p else gA_set (gA_set p 14 t 2) 4 c (if p.2.1 4 c + 1 < 9999 then p.2.1 4 c + 1 else 9999)) else gA_set p 14 t 3
def gA_sw (p : gA) (t : Nat) : Int32 := if p.2.1 15 t + p.2.1 1 (p.1.1 % 4) < 99 then p.2.1 15 t + p.2.1 1 (p.1.1 % 4) else 99
def gA_swing (p : gA) (c t : Nat) : gA := gA_land (gA_set (gA_set p 15 t (gA_sw p t)) 16 t (p.2.1 16 t + 1)) c t
def gA_crane (p : gA) (c : Nat) : gA := match gA_hung p c with
  | some t => gA_swing p c t
  | none => gA_hang p c
def gA_cranes : Nat → Nat → gA → gA
  | 0, _, p => p
  | n + 1, c, p => gA_cranes n (c + 1) (gA_crane p c)
def gA_hour (p : gA) : gA := ((p.1.1 + 1, p.1.2), (gA_cranes p.1.2.1 0 p).2)
def gA_go : Nat → gA → gA
  | 0, p => p
  | n + 1, p => gA_go n (gA_hour p)
theorem gA_land_n {p : gA} {c t : Nat} : (gA_land p c t).1 = p.1 := by
  unfold gA_land
  split
  · split <;> rfl
  · rfl
theorem gA_land_ok {p : gA} {c t : Nat} (h : gA_ok p) : gA_ok (gA_land p c t) := by
  unfold gA_land
  split
  · split
    · exact h
    · exact gA_ok_set (gA_ok_set h (by decide)) (by decide)
  · exact gA_ok_set h (by decide)
theorem gA_hangN_n {p : gA} {c : Nat} : ∀ {n t : Nat}, (gA_hangN p c n t).1 = p.1
  | 0, _ => rfl
  | n + 1, t => by
    unfold gA_hangN
    split
    · rfl
    · exact gA_hangN_n
theorem gA_hangN_ok {p : gA} {c : Nat} (h : gA_ok p) : ∀ {n t : Nat}, gA_ok (gA_hangN p c n t)
  | 0, _ => h
  | n + 1, t => by
    unfold gA_hangN
    split
    · exact gA_ok_fresh h
    · exact gA_hangN_ok h
theorem gA_crane_n {p : gA} {c : Nat} : (gA_crane p c).1 = p.1 := by
  unfold gA_crane
  split
  · exact gA_land_n
  · exact gA_hangN_n
theorem gA_crane_ok {p : gA} {c : Nat} (h : gA_ok p) : gA_ok (gA_crane p c) := by
  unfold gA_crane
  split
  · exact gA_land_ok (gA_ok_set (gA_ok_set h (by decide)) (by decide))
  · exact gA_hangN_ok h
theorem gA_cranes_n : ∀ {n c : Nat} {p : gA}, (gA_cranes n c p).1 = p.1
  | 0, _, _ => rfl
  | n + 1, c, p => by
    unfold gA_cranes
    rw [gA_cranes_n, gA_crane_n]
theorem gA_cranes_ok : ∀ {n c : Nat} {p : gA}, gA_ok p → gA_ok (gA_cranes n c p)
  | 0, _, _, h => h
  | n + 1, c, p, h => by
    unfold gA_cranes
    exact gA_cranes_ok (gA_crane_ok h)
theorem gA_hour_ok {p : gA} (h : gA_ok p) (hh : p.1.1 + 1 < 2 ^ 30) : gA_ok (gA_hour p) := by
  have e := gA_cranes_ok (n := p.1.2.1) (c := 0) h
  have e2 : (gA_cranes p.1.2.1 0 p).1 = p.1 := gA_cranes_n
  refine ⟨h.1, h.2.1, hh, fun c hc => ?_⟩
  exact e.2.2.2 c (by rw [e2]; exact hc)
section
variable {w : Nat × (Nat → Int32)} {d y c t f m : Nat} {p : gA} {Q : Option Value → gc_M → Prop}
theorem gy_land {s : gm_S} (hR : gR s y f m p) (hk : gA_ok p) (hc : c < p.1.2.1) (ht : t < p.1.2.2) (hq : ∀ s', gy_FR y s s' → gR s' y f m (gA_land p c t) → Q none (gm_m s')) : gc_X w d 64 39 [some (.ref y), some (.int (nI c)), some (.int (nI t))] [] (gm_m s) Q := by
  have hk1 := hk.1
  have hk2 := hk.2.1
  have hR0 := hR
  obtain ⟨hy, hf, h1, ho, h2, h4, h9, hA, hb, hh, hs⟩ := hR
  have i1 : vp_in (nI c) 6 := vp_in_nI (by omega) (by omega)
  have i2 : (nI c).toNatClampNeg = c := nI_clamp (by omega)
  have i3 : vp_in (nI t) 8 := vp_in_nI (by omega) (by omega)
  have i4 : (nI t).toNatClampNeg = t := nI_clamp (by omega)
  have a4 := hA 4 c (Or.inr (Or.inl ⟨Or.inr (Or.inr rfl), hc⟩))
  have a15 := hA 15 t (Or.inr (Or.inr (Or.inr ⟨by omega, by omega, ht⟩)))
  have a16 := hA 16 t (Or.inr (Or.inr (Or.inr ⟨by omega, by omega, ht⟩)))
  unfold gA_land at hq
  by_cases q1 : p.2.1 15 t ≤ p.2.1 17 0
  · rw [if_pos q1] at hq
    by_cases q2 : p.2.1 16 t < p.2.1 17 1
    · rw [if_pos q2] at hq
      simp only [E_X10_swingOn_0, E_X10_swingOn_1, E_X10_swingOn_4, E_X10_swingOn_5, E_X10_swingOn_7, E_X10_swingOn_8, E_X10_swingOn_11, E_X10_swingOn_12, E_X10_swingOn_13, E_X10_swingOn_14, E_X10_swingOn_17, E_X10_swingOn_18, E_X10_swingOn_21, E_X10_swingOn_22, E_X10_swingOn_23, E_X10_swingOn_24, E_X10_swingOn_25, E_X10_swingOn_28, E_X10_swingOn_29, E_X10_swingOn_30, E_X10_swingOn_33, E_X10_swingOn_34, E_X10_swingOn_35, E_X10_swingOn_36, E_X10_swingOn_37, E_X10_swingOn_38, E_X10_swingOn_39, E_X10_swingOn_40, E_X10_swingOn_43, E_X10_swingOn_44, E_X10_swingOn_45, E_X10_swingOn_46, E_X10_swingOn_49, E_X10_swingOn_52, E_X10_swingOn_55, E_X10_swingOn_56, E_X10_swingOn_59, E_X10_swingOn_60, E_X10_swingOn_61, E_X10_swingOn_62, E_X10_swingOn_65, E_X10_swingOn_66, E_X10_swingOn_69, E_X10_swingOn_70, E_X10_swingOn_71, E_X10_swingOn_72, E_X10_swingOn_75, E_X10_swingOn_78, E_X10_swingOn_81, E_X10_swingOn_82, E_X10_swingOn_85, E_X10_swingOn_86, E_X10_swingOn_87, E_X10_swingOn_88, E_X10_swingOn_89, E_X10_swingOn_92, E_X10_swingOn_93, E_X10_swingOn_96, E_X10_swingOn_97, E_X10_swingOn_100, E_X10_swingOn_101, E_X10_swingOn_102, E_X10_swingOn_103, E_X10_swingOn_104, E_X10_swingOn_107, E_X10_swingOn_108, gy_gok hy, gF_gok hf, yg_1 hy, yg_12 hy, yg_13 hy, yg_14 hy, h1, va_rf_some, Fg_0 hf, Fg_1 hf, ya_15 hy, yv_15 hy, ya_16 hy, yv_16 hy, i3, i4, a15, a16, hb, hh, q1, q2, if_true, if_false, Nat.reduceLT]
      exact hq s gy_FR_refl hR0
    · rw [if_neg q2] at hq
      simp only [E_X10_swingOn_0, E_X10_swingOn_1, E_X10_swingOn_4, E_X10_swingOn_5, E_X10_swingOn_7, E_X10_swingOn_8, E_X10_swingOn_11, E_X10_swingOn_12, E_X10_swingOn_13, E_X10_swingOn_14, E_X10_swingOn_17, E_X10_swingOn_18, E_X10_swingOn_21, E_X10_swingOn_22, E_X10_swingOn_23, E_X10_swingOn_24, E_X10_swingOn_25, E_X10_swingOn_28, E_X10_swingOn_29, E_X10_swingOn_30, E_X10_swingOn_33, E_X10_swingOn_34, E_X10_swingOn_35, E_X10_swingOn_36, E_X10_swingOn_37, E_X10_swingOn_38, E_X10_swingOn_39, E_X10_swingOn_40, E_X10_swingOn_43, E_X10_swingOn_44, E_X10_swingOn_45, E_X10_swingOn_46, E_X10_swingOn_49, E_X10_swingOn_52, E_X10_swingOn_55, E_X10_swingOn_56, E_X10_swingOn_59, E_X10_swingOn_60, E_X10_swingOn_61, E_X10_swingOn_62, E_X10_swingOn_65, E_X10_swingOn_66, E_X10_swingOn_69, E_X10_swingOn_70, E_X10_swingOn_71, E_X10_swingOn_72, E_X10_swingOn_75, E_X10_swingOn_78, E_X10_swingOn_81, E_X10_swingOn_82, E_X10_swingOn_85, E_X10_swingOn_86, E_X10_swingOn_87, E_X10_swingOn_88, E_X10_swingOn_89, E_X10_swingOn_92, E_X10_swingOn_93, E_X10_swingOn_96, E_X10_swingOn_97, E_X10_swingOn_100, E_X10_swingOn_101, E_X10_swingOn_102, E_X10_swingOn_103, E_X10_swingOn_104, E_X10_swingOn_107, E_X10_swingOn_108, gy_gok hy, gF_gok hf, yg_1 hy, yg_7 hy, yg_12 hy, yg_13 hy, yg_14 hy, h1, va_rf_some, Fg_0 hf, Fg_1 hf, ya_4 hy, yv_4 hy, ys_4 hy, ya_14 hy, ys_14 hy, ya_15 hy, yv_15 hy, ya_16 hy, yv_16 hy, i1, i2, i3, i4, a4, a15, a16, hb, hh, q1, q2, if_true, if_false, Nat.reduceLT, gsi_1, Nat.add_left_cancel_iff, Nat.reduceEqDiff, false_and, List.map_nil, List.map_cons, List.sum_cons, List.sum_nil, gcat_i, gcat_r, Nat.reduceAdd, Nat.reduceLeDiff]
      exact hq _ (gy_FR_si (gy_FR_si gy_FR_refl (by decide)) (by decide)) (gR_set (gR_set hR0 (by decide) (by decide)) (by decide) (by decide))
  · rw [if_neg q1] at hq
    simp only [E_X10_swingOn_0, E_X10_swingOn_1, E_X10_swingOn_4, E_X10_swingOn_5, E_X10_swingOn_7, E_X10_swingOn_8, E_X10_swingOn_11, E_X10_swingOn_12, E_X10_swingOn_13, E_X10_swingOn_14, E_X10_swingOn_17, E_X10_swingOn_18, E_X10_swingOn_21, E_X10_swingOn_22, E_X10_swingOn_23, E_X10_swingOn_24, E_X10_swingOn_25, E_X10_swingOn_28, E_X10_swingOn_29, E_X10_swingOn_30, E_X10_swingOn_33, E_X10_swingOn_34, E_X10_swingOn_35, E_X10_swingOn_36, E_X10_swingOn_37, E_X10_swingOn_38, E_X10_swingOn_39, E_X10_swingOn_40, E_X10_swingOn_43, E_X10_swingOn_44, E_X10_swingOn_45, E_X10_swingOn_46, E_X10_swingOn_49, E_X10_swingOn_52, E_X10_swingOn_55, E_X10_swingOn_56, E_X10_swingOn_59, E_X10_swingOn_60, E_X10_swingOn_61, E_X10_swingOn_62, E_X10_swingOn_65, E_X10_swingOn_66, E_X10_swingOn_69, E_X10_swingOn_70, E_X10_swingOn_71, E_X10_swingOn_72, E_X10_swingOn_75, E_X10_swingOn_78, E_X10_swingOn_81, E_X10_swingOn_82, E_X10_swingOn_85, E_X10_swingOn_86, E_X10_swingOn_87, E_X10_swingOn_88, E_X10_swingOn_89, E_X10_swingOn_92, E_X10_swingOn_93, E_X10_swingOn_96, E_X10_swingOn_97, E_X10_swingOn_100, E_X10_swingOn_101, E_X10_swingOn_102, E_X10_swingOn_103, E_X10_swingOn_104, E_X10_swingOn_107, E_X10_swingOn_108, gy_gok hy, gF_gok hf, yg_1 hy, yg_12 hy, yg_13 hy, yg_14 hy, h1, va_rf_some, Fg_0 hf, Fg_1 hf, ya_14 hy, ys_14 hy, ya_15 hy, yv_15 hy, ya_16 hy, yv_16 hy, i3, i4, a15, a16, hb, hh, q1, if_true, if_false, Nat.reduceLT]
    exact hq _ (gy_FR_si gy_FR_refl (by decide)) (gR_set hR0 (by decide) (by decide))
theorem gy_swing {s : gm_S} (hR : gR s y f m p) (hk : gA_ok p) (hc : c < p.1.2.1) (ht : t < p.1.2.2) (hq : ∀ s', gy_FR y s s' → gR s' y f m (gA_swing p c t) → Q none (gm_m s')) : gc_X w d 64 0 [some (.ref y), some (.int (nI c)), some (.int (nI t))] [] (gm_m s) Q := by
  have hk1 := hk.1
  have hk2 := hk.2.1
  have hk3 := hk.2.2.1
  have hR0 := hR
  obtain ⟨hy, hf, h1, ho, h2, h4, h9, hA, hb, hh, hs⟩ := hR
  have i3 : vp_in (nI t) 8 := vp_in_nI (by omega) (by omega)
  have i4 : (nI t).toNatClampNeg = t := nI_clamp (by omega)
  have i5 : vp_in (nI (p.1.1 % 4)) 4 := vp_in_nI (by omega) (by omega)
  have i6 : (nI (p.1.1 % 4)).toNatClampNeg = p.1.1 % 4 := nI_clamp (by omega)
  have i7 := nI_and3 (n := p.1.1) (by omega)
  have a1 := hA 1 (p.1.1 % 4) (Or.inl ⟨rfl, by omega⟩)
  have a15 := hA 15 t (Or.inr (Or.inr (Or.inr ⟨by omega, by omega, ht⟩)))
  have a16 := hA 16 t (Or.inr (Or.inr (Or.inr ⟨by omega, by omega, ht⟩)))
  have e : gc_X w d 64 0 [some (.ref y), some (.int (nI c)), some (.int (nI t))] [] (gm_m s) Q = gc_X w d 64 39 [some (.ref y), some (.int (nI c)), some (.int (nI t))] [] (gm_m (gm_si (gm_si s (y + 15) t (gA_sw p t)) (y + 16) t (p.2.1 16 t + 1))) Q := by
    simp only [E_X10_swingOn_0, E_X10_swingOn_1, E_X10_swingOn_4, E_X10_swingOn_5, E_X10_swingOn_7, E_X10_swingOn_8, E_X10_swingOn_11, E_X10_swingOn_12, E_X10_swingOn_13, E_X10_swingOn_14, E_X10_swingOn_17, E_X10_swingOn_18, E_X10_swingOn_21, E_X10_swingOn_22, E_X10_swingOn_23, E_X10_swingOn_24, E_X10_swingOn_25, E_X10_swingOn_28, E_X10_swingOn_29, E_X10_swingOn_30, E_X10_swingOn_33, E_X10_swingOn_34, E_X10_swingOn_35, E_X10_swingOn_36, E_X10_swingOn_37, E_X10_swingOn_38, E_X10_swingOn_40, E_X10_swingOn_43, E_X10_swingOn_44, E_X10_swingOn_45, E_X10_swingOn_46, E_X10_swingOn_49, E_X10_swingOn_52, E_X10_swingOn_55, E_X10_swingOn_56, E_X10_swingOn_59, E_X10_swingOn_60, E_X10_swingOn_61, E_X10_swingOn_62, E_X10_swingOn_65, E_X10_swingOn_66, E_X10_swingOn_69, E_X10_swingOn_70, E_X10_swingOn_71, E_X10_swingOn_72, E_X10_swingOn_75, E_X10_swingOn_78, E_X10_swingOn_81, E_X10_swingOn_82, E_X10_swingOn_85, E_X10_swingOn_86, E_X10_swingOn_87, E_X10_swingOn_88, E_X10_swingOn_89, E_X10_swingOn_92, E_X10_swingOn_93, E_X10_swingOn_96, E_X10_swingOn_97, E_X10_swingOn_100, E_X10_swingOn_101, E_X10_swingOn_102, E_X10_swingOn_103, E_X10_swingOn_104, E_X10_swingOn_107, E_X10_swingOn_108, gy_gok hy, yg_2 hy, yg_3 hy, yg_13 hy, yg_14 hy, ya_1 hy, yv_1 hy, ya_15 hy, yv_15 hy, ys_15 hy, ya_16 hy, yv_16 hy, ys_16 hy, i3, i4, i5, i6, i7, h2, a1, a15, a16, Nat.reduceLT, gsi_1, Nat.add_left_cancel_iff, Nat.reduceEqDiff, false_and, if_false, List.map_nil, List.map_cons, List.sum_cons, List.sum_nil, gcat_i, gcat_r, Nat.reduceAdd, Nat.reduceLeDiff, gA_sw]
  rw [e]
  exact gy_land (gR_set (gR_set hR0 (by decide) (by decide)) (by decide) (by decide)) (gA_ok_set (gA_ok_set hk (by decide)) (by decide)) hc ht (fun s' hf hR' => hq s' (gy_FR_trans (gy_FR_si (gy_FR_si gy_FR_refl (by decide)) (by decide)) hf) hR')
end
