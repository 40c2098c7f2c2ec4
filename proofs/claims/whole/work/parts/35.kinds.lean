theorem nI_and3 {n : Nat} (h : n < 2 ^ 31) : nI n &&& 3 = nI (n % 4) := by
  apply Int32.toBitVec_inj.1
  apply BitVec.eq_of_toNat_eq
  have e : (nI n &&& 3).toBitVec.toNat = n &&& 3 := by
    show (BitVec.ofNat 32 n &&& 3#32).toNat = n &&& 3
    rw [BitVec.toNat_and, BitVec.toNat_ofNat, BitVec.toNat_ofNat, Nat.mod_eq_of_lt (by omega)]
  have e2 : (nI (n % 4)).toBitVec.toNat = n % 4 := by
    show (BitVec.ofNat 32 (n % 4)).toNat = n % 4
    rw [BitVec.toNat_ofNat, Nat.mod_eq_of_lt (by omega)]
  rw [e, e2]
  exact Nat.and_two_pow_sub_one_eq_mod n 2
/-! what a kind makes of the sum -/
def gk_jib (s : gm_S) (y : Nat) (n : Int32) (c : Nat) : Int32 := n + s.1 (y + 3) c
def gk_old (n : Int32) : Int32 := n / 2 + 10
def gk_std (s : gm_S) (y h : Nat) (n : Int32) (c : Nat) : Int32 := if s.1 (y + 1) (h % 4) ≤ s.1 (y + 3) c then n else 0
def gk_pow (s : gm_S) (y h k : Nat) (n : Int32) (c t : Nat) : Int32 := match k with
  | 0 => n
  | 1 => gk_jib s y n c
  | 2 => gk_old n
  | 3 => gk_std s y h n c
  | 4 => if s.1 (y + 12) t < 50 then gk_jib s y n c else 2 * gk_jib s y n c
  | 5 => gk_old n - (if s.1 (y + 4) c < 9 then s.1 (y + 4) c else 9)
  | _ => gk_std s y h n c + s.1 (y + 6 + c) (t % 4)
section
variable {w : Nat × (Nat → Int32)} {d y c t h a : Nat} {s : gm_S} {n x : Int32} {Q : Option Value → gc_M → Prop}
theorem gk_0 : gc_X w d 1 0 [some (.ref a), some (.int n), some (.ref y), some (.int (nI c)), some (.int x)] [] (gm_m s) Q = Q (some (.int n)) (gm_m s) := by
  simp only [E_X0_power_0, E_X0_power_1]
theorem gk_1 (hy : gy_is y) (hc : c < 6) : gc_X w d 28 0 [some (.ref a), some (.int n), some (.ref y), some (.int (nI c)), some (.int x)] [] (gm_m s) Q = Q (some (.int (gk_jib s y n c))) (gm_m s) := by
  have i1 : vp_in (nI c) 6 := vp_in_nI hc (by omega)
  have i2 : (nI c).toNatClampNeg = c := nI_clamp (by omega)
  simp only [E_X3_power_0, E_X3_power_1, E_X3_power_2, E_X3_power_5, E_X3_power_6, E_X3_power_7, E_X3_power_8, gy_gok hy, yg_6 hy, ya_3 hy, yv_3 hy, i1, i2, Nat.reduceLT, gk_jib]
theorem gk_2 : gc_X w d 31 0 [some (.ref a), some (.int n), some (.ref y), some (.int (nI c)), some (.int x)] [] (gm_m s) Q = Q (some (.int (gk_old n))) (gm_m s) := by
  simp (decide := true) only [E_X4_power_0, E_X4_power_1, E_X4_power_2, E_X4_power_3, E_X4_power_5, E_X4_power_6, gk_old]
theorem gk_3 (hy : gy_is y) (hc : c < 6) (hh : s.1 y 2 = nI h) (h2 : h < 2 ^ 31) : gc_X w d 41 0 [some (.ref a), some (.int n), some (.ref y), some (.int (nI c)), some (.int x)] [] (gm_m s) Q = Q (some (.int (gk_std s y h n c))) (gm_m s) := by
  have i1 : vp_in (nI c) 6 := vp_in_nI hc (by omega)
  have i2 : (nI c).toNatClampNeg = c := nI_clamp (by omega)
  have i3 : vp_in (nI (h % 4)) 4 := vp_in_nI (by omega) (by omega)
  have i4 : (nI (h % 4)).toNatClampNeg = h % 4 := nI_clamp (by omega)
  have i5 := nI_and3 h2
  by_cases hA : s.1 (y + 1) (h % 4) ≤ s.1 (y + 3) c <;>
    simp only [E_X7_power_0, E_X7_power_1, E_X7_power_4, E_X7_power_5, E_X7_power_8, E_X7_power_9, E_X7_power_10, E_X7_power_11, E_X7_power_12, E_X7_power_15, E_X7_power_16, E_X7_power_17, E_X7_power_20, E_X7_power_21, E_X7_power_24, E_X7_power_25, gy_gok hy, yg_2 hy, yg_3 hy, yg_6 hy, ya_1 hy, yv_1 hy, ya_3 hy, yv_3 hy, hh, i1, i2, i3, i4, i5, hA, if_true, if_false, Nat.reduceLT, gk_std]
theorem gk_4 (hy : gy_is y) (hc : c < 6) (ht : t < 8) (ho : gm_obj (gm_m s) a = true) : gc_X w (d + 1) 24 0 [some (.ref a), some (.int n), some (.ref y), some (.int (nI c)), some (.int (nI t)), none] [] (gm_m s) Q = Q (some (.int (gk_pow s y h 4 n c t))) (gm_m s) := by
  have i1 : vp_in (nI t) 8 := vp_in_nI ht (by omega)
  have i2 : (nI t).toNatClampNeg = t := nI_clamp (by omega)
  by_cases hA : s.1 (y + 12) t < 50 <;>
    simp only [E_X2_power_0, E_X2_power_1, E_X2_power_2, E_X2_power_3, E_X2_power_4, E_X2_power_6, E_X2_power_9, E_X2_power_11, E_X2_power_12, E_X2_power_15, E_X2_power_17, E_X2_power_18, E_X2_power_20, E_X2_power_23, E_X2_power_24, E_X2_power_26, E_X2_power_27, E_X2_power_30, E_X2_power_32, ho, gk_1 hy hc, gy_gok hy, yg_10 hy, ya_12 hy, yv_12 hy, i1, i2, hA, if_true, if_false, Nat.reduceLT, gk_pow, gnk_i, List.map_nil, List.sum_nil, Nat.zero_le, Option.toList, List.cons_append, List.nil_append]
theorem gk_5 (hy : gy_is y) (hc : c < 6) (ho : gm_obj (gm_m s) a = true) : gc_X w (d + 1) 38 0 [some (.ref a), some (.int n), some (.ref y), some (.int (nI c)), some (.int (nI t))] [] (gm_m s) Q = Q (some (.int (gk_pow s y h 5 n c t))) (gm_m s) := by
  have i1 : vp_in (nI c) 6 := vp_in_nI hc (by omega)
  have i2 : (nI c).toNatClampNeg = c := nI_clamp (by omega)
  simp only [E_X6_power_0, E_X6_power_1, E_X6_power_2, E_X6_power_3, E_X6_power_4, E_X6_power_6, E_X6_power_9, E_X6_power_11, E_X6_power_12, E_X6_power_15, E_X6_power_16, E_X6_power_17, E_X6_power_20, E_X6_power_21, ho, gk_2, gy_gok hy, yg_7 hy, ya_4 hy, yv_4 hy, i1, i2, Nat.reduceLT, gk_pow, List.map_nil, List.map_cons, List.sum_cons, List.sum_nil, gcat_i, Nat.reduceAdd, Nat.reduceLeDiff, Nat.zero_le, Option.toList, List.cons_append, List.nil_append]
end
theorem gm_ri_rr {M : gc_M} {a r : Nat} {i : Int32} (h : gm_ri M a i r) : gm_rr M a i.toNatClampNeg = r := by
  unfold gm_ri at h
  unfold gm_rr
  split at h
  · simp only [h.2.2.2.2.1, Option.getD_some]
  · exact h.elim
theorem gm_ri_rok {M : gc_M} {a r : Nat} {i : Int32} (h : gm_ri M a i r) : gm_rok M a i := by
  unfold gm_rok
  rw [gm_ri_rr h]
  exact h
/-! the rows of the cranes, and the kinds -/
theorem yr_ri {s : gm_S} {y c : Nat} (hy : gy_is y) (hc : c < 6) : gm_ri (gm_m s) (y + 5) (nI c) (y + 6 + c) := by
  have hin : vp_in (nI c) 6 := vp_in_nI hc (by omega)
  have e : (nI c).toNatClampNeg = c := nI_clamp (by omega)
  rcases hy with rfl | rfl | rfl <;>
    (refine gm_m_ri (t := 4) (n := 6) (by decide) rfl (by decide) hin ?_ (by omega); rw [e]; match c, hc with | 0, _ => rfl | 1, _ => rfl | 2, _ => rfl | 3, _ => rfl | 4, _ => rfl | 5, _ => rfl)
theorem yr_sh {y c : Nat} (hy : gy_is y) (hc : c < 6) : y + 6 + c < 192 ∧ gm_sh (y + 6 + c) = (0, 4, []) := by
  rcases hy with rfl | rfl | rfl <;> (match c, hc with | 0, _ => exact ⟨by decide, rfl⟩ | 1, _ => exact ⟨by decide, rfl⟩ | 2, _ => exact ⟨by decide, rfl⟩ | 3, _ => exact ⟨by decide, rfl⟩ | 4, _ => exact ⟨by decide, rfl⟩ | 5, _ => exact ⟨by decide, rfl⟩)
theorem yr_a {s : gm_S} {y c : Nat} {i : Int32} (hy : gy_is y) (hc : c < 6) : gm_ai (gm_m s) 0 (y + 6 + c) i = vp_in i 4 := gm_m_ai (yr_sh hy hc).1 (yr_sh hy hc).2 (Or.inl rfl)
theorem yr_v {s : gm_S} {y c j : Nat} (hy : gy_is y) (hc : c < 6) : gm_av (gm_m s) (y + 6 + c) j = s.1 (y + 6 + c) j := gm_m_av (yr_sh hy hc).1 (yr_sh hy hc).2 (Or.inl rfl)
theorem yr_s {s : gm_S} {y c j : Nat} {x : Int32} (hy : gy_is y) (hc : c < 6) : gm_as (gm_m s) (y + 6 + c) j x = gm_m (gm_si s (y + 6 + c) j x) := gm_m_as (yr_sh hy hc).1 (yr_sh hy hc).2 (Or.inl rfl)
theorem yk_ri {s : gm_S} {k : Nat} (hk : k < 7) : gm_ri (gm_m s) 64 (nI k) (65 + 2 * k) := by
  have hin : vp_in (nI k) 7 := vp_in_nI hk (by omega)
  have e : (nI k).toNatClampNeg = k := nI_clamp (by omega)
  refine gm_m_ri (t := 5) (n := 7) (by decide) rfl (by decide) hin ?_ (by omega)
  rw [e]
  match k, hk with | 0, _ => rfl | 1, _ => rfl | 2, _ => rfl | 3, _ => rfl | 4, _ => rfl | 5, _ => rfl | 6, _ => rfl
section
variable {w : Nat × (Nat → Int32)} {d y c t h a : Nat} {s : gm_S} {n : Int32} {Q : Option Value → gc_M → Prop}
theorem gk_6 (hy : gy_is y) (hc : c < 6) (ht : t < 8) (hh : s.1 y 2 = nI h) (h2 : h < 2 ^ 31) (ho : gm_obj (gm_m s) a = true) : gc_X w (d + 1) 47 0 [some (.ref a), some (.int n), some (.ref y), some (.int (nI c)), some (.int (nI t))] [] (gm_m s) Q = Q (some (.int (gk_pow s y h 6 n c t))) (gm_m s) := by
  have i1 := gm_ri_rok (yr_ri (s := s) hy hc)
  have i2 := gm_ri_rr (yr_ri (s := s) hy hc)
  have e : (nI c).toNatClampNeg = c := nI_clamp (by omega)
  rw [e] at i2
  have i3 : vp_in (nI (t % 4)) 4 := vp_in_nI (by omega) (by omega)
  have i4 : (nI (t % 4)).toNatClampNeg = t % 4 := nI_clamp (by omega)
  have i5 := nI_and3 (n := t) (by omega)
  simp only [E_X9_power_0, E_X9_power_1, E_X9_power_2, E_X9_power_3, E_X9_power_4, E_X9_power_6, E_X9_power_9, E_X9_power_10, E_X9_power_13, E_X9_power_14, E_X9_power_15, E_X9_power_17, E_X9_power_18, E_X9_power_19, E_X9_power_20, E_X9_power_21, ho, gk_3 hy hc hh h2, gy_gok hy, yg_8 hy, yr_a hy hc, yr_v hy hc, e, i1, i2, i3, i4, i5, Nat.reduceLT, gk_pow, List.map_nil, List.map_cons, List.sum_cons, List.sum_nil, gcat_i, Nat.reduceAdd, Nat.reduceLeDiff, Nat.zero_le, Option.toList, List.cons_append, List.nil_append]
end
