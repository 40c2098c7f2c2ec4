/-! the reference: its small questions, and its yard -/
def mS (x : Int32) : Int32 := if x = -1 then -5 else x
theorem mS_nI {x : Int32} {c : Nat} (hc : c < 8) : (mS x = nI c) = (x = nI c) := by
  unfold mS
  by_cases h : x = -1
  · subst h
    have h1 : ¬ nI c = -1 := nI_nm1 hc
    have h2 : ¬ (-5 : Int32) = nI c := by
      match c, hc with | 0, _ => decide | 1, _ => decide | 2, _ => decide | 3, _ => decide | 4, _ => decide | 5, _ => decide | 6, _ => decide | 7, _ => decide
    rw [if_pos rfl]
    exact propext ⟨fun e => absurd e h2, fun e => absurd e.symm h1⟩
  · rw [if_neg h]
theorem gI_pred {n : Nat} (h : n ≤ 8) : (nI n - 1).toInt = (n : Int) - 1 := by
  match n, h with | 0, _ => rfl | 1, _ => rfl | 2, _ => rfl | 3, _ => rfl | 4, _ => rfl | 5, _ => rfl | 6, _ => rfl | 7, _ => rfl | 8, _ => rfl
def gB_in (x l h : Int32) : Bool := !(decide (x < l)) && !(decide (h < x))
theorem gB_in_of {n : Nat} {x : Int32} (h : n ≤ 8) : gB_in x 0 (nI n - 1) = gA_of n x := by
  unfold gB_in gA_of
  have e : (nI n - 1 < x) = (nI n ≤ x) := by
    rw [Int32.lt_iff_toInt_lt, Int32.le_iff_toInt_le, gI_pred h]
    have e2 : (nI n).toInt = n := Int32.toInt_ofNat_of_lt (by omega)
    rw [e2]
    exact propext ⟨fun h => by omega, fun h => by omega⟩
  simp only [e]
/-- the yard that the reference holds, but what its text makes of the facts -/
def mR (s : gm_S) (p : gA) : Prop := s.1 137 0 = nI p.1.2.1 ∧ s.1 137 1 = nI p.1.2.2 ∧ s.1 137 2 = nI p.1.1 ∧ (∀ k, k < 4 → s.1 138 k = p.2.1 1 k) ∧ (∀ c, c < p.1.2.1 → s.1 139 c = p.2.1 2 c ∧ s.1 140 c = p.2.1 3 c ∧ ∀ k, k < 4 → s.1 142 (4 * c + k) = p.2.1 (6 + c) k) ∧ ∀ t, t < p.1.2.2 → s.1 143 t = p.2.1 12 t ∧ s.1 144 t = mS (p.2.1 13 t) ∧ s.1 145 t = p.2.1 14 t ∧ s.1 146 t = p.2.1 15 t ∧ s.1 147 t = p.2.1 16 t
section
variable {w : Nat × (Nat → Int32)} {d c t : Nat} {s : gm_S} {p : gA} {Q : Option Value → gc_M → Prop} {x y z : Int32}
theorem m_in : gc_X w d 110 0 [some (.ref 137), some (.int x), some (.int y), some (.int z)] [] (gm_m s) Q = Q (some (.int (gb_i (gB_in x y z)))) (gm_m s) := by
  by_cases h1 : x < y <;> by_cases h2 : z < x <;>
    simp only [E_X12_in_0, E_X12_in_1, E_X12_in_2, E_X12_in_5, E_X12_in_6, E_X12_in_7, E_X12_in_10, E_X12_in_11, E_X12_in_14, E_X12_in_15, h1, h2, gB_in, gb_i, gb_n0, gb_n1, if_true, if_false, decide_true, decide_false, Bool.not_true, Bool.not_false, Bool.and_true, Bool.and_false, Bool.and_self, Bool.false_eq_true]
theorem m_least : gc_X w d 112 0 [some (.ref 137), some (.int x), some (.int y)] [] (gm_m s) Q = Q (some (.int (if x < y then x else y))) (gm_m s) := by
  by_cases h1 : y ≤ x
  · have h2 : ¬ x < y := by
      rw [Int32.lt_iff_toInt_lt]
      rw [Int32.le_iff_toInt_le] at h1
      omega
    simp only [E_X12_least_0, E_X12_least_1, E_X12_least_2, E_X12_least_5, E_X12_least_6, E_X12_least_9, E_X12_least_10, h1, h2, if_true, if_false]
  · have h2 : x < y := by
      rw [Int32.lt_iff_toInt_lt]
      rw [Int32.le_iff_toInt_le] at h1
      omega
    simp only [E_X12_least_0, E_X12_least_1, E_X12_least_2, E_X12_least_5, E_X12_least_6, E_X12_least_9, E_X12_least_10, h1, h2, if_true, if_false]
theorem m_isCrane (hR : mR s p) (hk : gA_ok p) : gc_X w (d + 1) 114 0 [some (.ref 137), some (.int x)] [] (gm_m s) Q = Q (some (.int (gb_i (gA_of p.1.2.1 x)))) (gm_m s) := by
  have h := hR.1
  have hk1 := hk.1
  have hb : vp_nar .boolean (gb_i (gA_of p.1.2.1 x)) = gb_i (gA_of p.1.2.1 x) := by
    cases gA_of p.1.2.1 x
    · exact gb_n0
    · exact gb_n1
  simp only [E_X12_isCrane_0, E_X12_isCrane_1, E_X12_isCrane_2, E_X12_isCrane_3, E_X12_isCrane_4, E_X12_isCrane_7, E_X12_isCrane_8, E_X12_isCrane_9, E_X12_isCrane_12, rk_137, rc_137, rg_137_0, h, m_in, gB_in_of (show p.1.2.1 ≤ 8 by omega), hb, Nat.reduceLT, List.map_nil, List.sum_nil, Nat.zero_le, Option.toList, List.cons_append, List.nil_append]
theorem m_isThing (hR : mR s p) (hk : gA_ok p) : gc_X w (d + 1) 115 0 [some (.ref 137), some (.int x)] [] (gm_m s) Q = Q (some (.int (gb_i (gA_of p.1.2.2 x)))) (gm_m s) := by
  have h := hR.2.1
  have hk1 := hk.2.1
  have hb : vp_nar .boolean (gb_i (gA_of p.1.2.2 x)) = gb_i (gA_of p.1.2.2 x) := by
    cases gA_of p.1.2.2 x
    · exact gb_n0
    · exact gb_n1
  simp only [E_X12_isThing_0, E_X12_isThing_1, E_X12_isThing_2, E_X12_isThing_3, E_X12_isThing_4, E_X12_isThing_7, E_X12_isThing_8, E_X12_isThing_9, E_X12_isThing_12, rk_137, rc_137, rg_137_1, h, m_in, gB_in_of hk1, hb, Nat.reduceLT, List.map_nil, List.sum_nil, Nat.zero_le, Option.toList, List.cons_append, List.nil_append]
theorem m_hung_loop (hR : mR s p) (hk : gA_ok p) (hc : c < p.1.2.1) : ∀ (n t : Nat), t + n = p.1.2.2 → gc_X w d 149 2 [some (.ref 137), some (.int (nI c)), some (.int (nI t))] [] (gm_m s) Q = Q (some (.int (gp_i (gp_first (gA_hg p c) n t) (-5)))) (gm_m s) := by
  intro n
  have hk1 := hk.1
  have hk2 := hk.2.1
  have h9 := hR.2.1
  induction n with
  | zero =>
    intro t ht
    have e : p.1.2.2 = t := by omega
    rw [e] at h9
    rw [E_X12_hungBy_2]
    simp only [E_X12_hungBy_0, E_X12_hungBy_1, E_X12_hungBy_3, E_X12_hungBy_4, E_X12_hungBy_7, E_X12_hungBy_10, E_X12_hungBy_11, E_X12_hungBy_14, E_X12_hungBy_15, E_X12_hungBy_16, E_X12_hungBy_17, E_X12_hungBy_20, E_X12_hungBy_21, E_X12_hungBy_24, E_X12_hungBy_25, E_X12_hungBy_26, E_X12_hungBy_27, E_X12_hungBy_30, E_X12_hungBy_31, E_X12_hungBy_32, E_X12_hungBy_35, E_X12_hungBy_38, E_X12_hungBy_40, rk_137, rg_137_1, h9, nI_le (Nat.le_refl t) (by omega : t < 2 ^ 31), if_true, Nat.reduceLT, gp_first, gp_i]
  | succ n ih =>
    intro t ht
    have i3 : vp_in (nI t) 8 := vp_in_nI (by omega) (by omega)
    have i4 : (nI t).toNatClampNeg = t := nI_clamp (by omega)
    obtain ⟨-, a13, a14, -, -⟩ := hR.2.2.2.2.2 t (by omega)
    have hge : ¬ nI p.1.2.2 ≤ nI t := nI_ge (by omega) (by omega)
    have hm : (s.1 144 t = nI c) = (p.2.1 13 t = nI c) := by
      rw [a13]
      exact mS_nI (by omega)
    have hi := ih (t + 1) (by omega)
    rw [nI_succ] at hi
    rw [E_X12_hungBy_2]
    by_cases hA : p.2.1 14 t = 1 <;> by_cases hB : p.2.1 13 t = nI c <;>
      (simp only [E_X12_hungBy_0, E_X12_hungBy_1, E_X12_hungBy_3, E_X12_hungBy_4, E_X12_hungBy_7, E_X12_hungBy_10, E_X12_hungBy_11, E_X12_hungBy_14, E_X12_hungBy_15, E_X12_hungBy_16, E_X12_hungBy_17, E_X12_hungBy_20, E_X12_hungBy_21, E_X12_hungBy_24, E_X12_hungBy_25, E_X12_hungBy_26, E_X12_hungBy_27, E_X12_hungBy_30, E_X12_hungBy_31, E_X12_hungBy_32, E_X12_hungBy_35, E_X12_hungBy_38, E_X12_hungBy_40, rk_137, rg_137_1, rg_137_9, rg_137_10, h9, hge, if_false, if_true, ra_144, rv_144, ra_145, rv_145, i3, i4, a14, hm, hA, hB, Nat.reduceLT, gnk_i, gi_1, hi]; try simp [gp_first, gA_hg, hA, hB, gp_i])
theorem m_hung (hR : mR s p) (hk : gA_ok p) (hc : c < p.1.2.1) : gc_X w d 149 0 [some (.ref 137), some (.int (nI c)), none] [] (gm_m s) Q = Q (some (.int (gp_i (gA_hung p c) (-5)))) (gm_m s) := by
  have h := m_hung_loop (w := w) (d := d) (Q := Q) hR hk hc p.1.2.2 0 (by omega)
  rw [nI_0] at h
  simp only [E_X12_hungBy_0, E_X12_hungBy_1, gnk_i, gnk_n]
  exact h
end
