/-! what is asked of a yard, and what is added to it -/
/-- a number that is one of n -/
def gA_of (n : Nat) (x : Int32) : Bool := !(decide (x < 0)) && !(decide (nI n ≤ x))
theorem gA_of_nI {n c : Nat} (h : c < n) (hn : n < 2 ^ 31) : gA_of n (nI c) = true := by
  have h1 : ¬ nI c < 0 := by
    have := nI_ge (a := 0) (b := c + 1) (by omega) (by omega)
    rw [← nI_0]
    intro h2
    have h3 := nI_le (a := 0) (b := c) (by omega) (by omega)
    rw [Int32.lt_iff_toInt_lt] at h2
    rw [Int32.le_iff_toInt_le] at h3
    omega
  have h2 : ¬ nI n ≤ nI c := nI_ge h hn
  simp only [gA_of, h1, h2, decide_false, Bool.not_false, Bool.and_self]
theorem gA_of_ex {n : Nat} {x : Int32} (h : gA_of n x = true) (hn : n < 2 ^ 31) : ∃ c, c < n ∧ x = nI c := by
  simp only [gA_of, Bool.and_eq_true, Bool.not_eq_true', decide_eq_false_iff_not] at h
  obtain ⟨h1, h2⟩ := h
  rw [Int32.lt_iff_toInt_lt] at h1
  rw [Int32.le_iff_toInt_le] at h2
  have e0 : (0 : Int32).toInt = 0 := rfl
  have en : (nI n).toInt = n := Int32.toInt_ofNat_of_lt hn
  rw [e0] at h1
  rw [en] at h2
  refine ⟨x.toInt.toNat, by omega, ?_⟩
  apply Int32.toInt_inj.1
  have e3 : (nI x.toInt.toNat).toInt = (x.toInt.toNat : Int) := Int32.toInt_ofNat_of_lt (by omega)
  rw [e3]
  omega
section
variable {w : Nat × (Nat → Int32)} {d y c t f m : Nat} {s : gm_S} {p : gA} {Q : Option Value → gc_M → Prop} {x z : Int32}
theorem gy_hasCrane (hR : gR s y f m p) : gc_X w d 51 0 [some (.ref y), some (.int x)] [] (gm_m s) Q = Q (some (.int (gb_i (gA_of p.1.2.1 x)))) (gm_m s) := by
  have hy := hR.1
  have h4 := hR.2.2.2.2.2.1
  by_cases h1 : x < 0 <;> by_cases h2 : nI p.1.2.1 ≤ x <;>
    simp only [E_X10_hasCrane_0, E_X10_hasCrane_1, E_X10_hasCrane_4, E_X10_hasCrane_5, E_X10_hasCrane_6, E_X10_hasCrane_9, E_X10_hasCrane_12, E_X10_hasCrane_13, E_X10_hasCrane_16, E_X10_hasCrane_17, gy_gok hy, yg_4 hy, h4, h1, h2, gA_of, gb_i, gb_n0, gb_n1, if_true, if_false, Nat.reduceLT, decide_true, decide_false, Bool.not_true, Bool.not_false, Bool.and_true, Bool.and_false, Bool.and_self, Bool.false_eq_true]
theorem gy_hasThing (hR : gR s y f m p) : gc_X w d 52 0 [some (.ref y), some (.int x)] [] (gm_m s) Q = Q (some (.int (gb_i (gA_of p.1.2.2 x)))) (gm_m s) := by
  have hy := hR.1
  have h9 := hR.2.2.2.2.2.2.1
  by_cases h1 : x < 0 <;> by_cases h2 : nI p.1.2.2 ≤ x <;>
    simp only [E_X10_hasThing_0, E_X10_hasThing_1, E_X10_hasThing_4, E_X10_hasThing_5, E_X10_hasThing_6, E_X10_hasThing_9, E_X10_hasThing_12, E_X10_hasThing_13, E_X10_hasThing_16, E_X10_hasThing_17, gy_gok hy, yg_9 hy, h9, h1, h2, gA_of, gb_i, gb_n0, gb_n1, if_true, if_false, Nat.reduceLT, decide_true, decide_false, Bool.not_true, Bool.not_false, Bool.and_true, Bool.and_false, Bool.and_self, Bool.false_eq_true]
/-- a thing that is in a state -/
def gA_isIn (p : gA) (x z : Int32) : Bool := gA_of p.1.2.2 x && decide (p.2.1 14 x.toNatClampNeg = z)
theorem gy_isIn (hR : gR s y f m p) (hk : gA_ok p) : gc_X w (d + 1) 53 0 [some (.ref y), some (.int x), some (.int z)] [] (gm_m s) Q = Q (some (.int (gb_i (gA_isIn p x z)))) (gm_m s) := by
  have hy := hR.1
  have hk2 := hk.2.1
  have ht := fun (Q : Option Value → gc_M → Prop) => gy_hasThing (w := w) (d := d) (x := x) (Q := Q) hR
  unfold gA_isIn
  by_cases h1 : gA_of p.1.2.2 x = true
  · obtain ⟨t, ht8, e⟩ := gA_of_ex h1 (by omega)
    have i3 : vp_in (nI t) 8 := vp_in_nI (by omega) (by omega)
    have i4 : (nI t).toNatClampNeg = t := nI_clamp (by omega)
    have a14 := hR.2.2.2.2.2.2.2.1 14 t (Or.inr (Or.inr (Or.inr ⟨by omega, by omega, ht8⟩)))
    subst e
    by_cases h2 : p.2.1 14 t = z <;>
      simp (decide := true) only [E_X10_isIn_0, E_X10_isIn_1, E_X10_isIn_2, E_X10_isIn_5, E_X10_isIn_8, E_X10_isIn_9, E_X10_isIn_12, E_X10_isIn_13, E_X10_isIn_14, E_X10_isIn_15, E_X10_isIn_18, E_X10_isIn_19, E_X10_isIn_22, E_X10_isIn_23, gy_cl hy, gy_gok hy, yg_12 hy, ya_14 hy, yv_14 hy, ht, h1, i3, i4, a14, h2, gb_i, gb_n0, gb_n1, if_true, if_false, Nat.reduceLT, decide_true, decide_false, Bool.and_true, Bool.and_false, Bool.and_self, Bool.false_eq_true, List.map_nil, List.sum_nil, Nat.zero_le, Option.toList, List.cons_append, List.nil_append]
  · simp (decide := true) only [E_X10_isIn_0, E_X10_isIn_1, E_X10_isIn_2, E_X10_isIn_5, E_X10_isIn_8, E_X10_isIn_9, E_X10_isIn_12, E_X10_isIn_13, E_X10_isIn_14, E_X10_isIn_15, E_X10_isIn_18, E_X10_isIn_19, E_X10_isIn_22, E_X10_isIn_23, gy_cl hy, ht, h1, gb_i, gb_n0, gb_n1, if_true, if_false, Bool.false_and, Bool.false_eq_true, List.map_nil, List.sum_nil, Nat.zero_le, Option.toList, List.cons_append, List.nil_append]
/-- the things in a state, a bit each -/
def gA_bits (p : gA) (z : Int32) : Nat → Nat → Int32 → Int32
  | 0, _, b => b
  | n + 1, t, b => gA_bits p z n (t + 1) (if p.2.1 14 t = z then b ||| 1 <<< (nI t &&& 31) else b)
theorem gy_bits_loop (hR : gR s y f m p) (hk : gA_ok p) : ∀ (n t : Nat) (b : Int32), t + n = p.1.2.2 → gc_X w d 59 4 [some (.ref y), some (.int z), some (.int b), some (.int (nI t))] [] (gm_m s) Q = Q (some (.int (gA_bits p z n t b))) (gm_m s) := by
  intro n
  have hy := hR.1
  have hk2 := hk.2.1
  have h9 := hR.2.2.2.2.2.2.1
  induction n with
  | zero =>
    intro t b ht
    have e : p.1.2.2 = t := by omega
    rw [e] at h9
    rw [E_X10_bitsOf_4]
    simp only [E_X10_bitsOf_0, E_X10_bitsOf_1, E_X10_bitsOf_2, E_X10_bitsOf_3, E_X10_bitsOf_5, E_X10_bitsOf_6, E_X10_bitsOf_9, E_X10_bitsOf_12, E_X10_bitsOf_13, E_X10_bitsOf_16, E_X10_bitsOf_17, E_X10_bitsOf_18, E_X10_bitsOf_19, E_X10_bitsOf_22, E_X10_bitsOf_23, E_X10_bitsOf_24, E_X10_bitsOf_25, E_X10_bitsOf_26, E_X10_bitsOf_27, E_X10_bitsOf_28, E_X10_bitsOf_31, E_X10_bitsOf_34, E_X10_bitsOf_35, gy_gok hy, yg_9 hy, h9, nI_le (Nat.le_refl t) (by omega : t < 2 ^ 31), if_true, Nat.reduceLT, gA_bits]
  | succ n ih =>
    intro t b ht
    have i3 : vp_in (nI t) 8 := vp_in_nI (by omega) (by omega)
    have i4 : (nI t).toNatClampNeg = t := nI_clamp (by omega)
    have a14 := hR.2.2.2.2.2.2.2.1 14 t (Or.inr (Or.inr (Or.inr ⟨by omega, by omega, by omega⟩)))
    have hge : ¬ nI p.1.2.2 ≤ nI t := nI_ge (by omega) (by omega)
    have hi := ih (t + 1)
    rw [nI_succ] at hi
    rw [E_X10_bitsOf_4, gA_bits]
    by_cases h2 : p.2.1 14 t = z
    · simp only [E_X10_bitsOf_0, E_X10_bitsOf_1, E_X10_bitsOf_2, E_X10_bitsOf_3, E_X10_bitsOf_5, E_X10_bitsOf_6, E_X10_bitsOf_9, E_X10_bitsOf_12, E_X10_bitsOf_13, E_X10_bitsOf_16, E_X10_bitsOf_17, E_X10_bitsOf_18, E_X10_bitsOf_19, E_X10_bitsOf_22, E_X10_bitsOf_23, E_X10_bitsOf_24, E_X10_bitsOf_25, E_X10_bitsOf_26, E_X10_bitsOf_27, E_X10_bitsOf_28, E_X10_bitsOf_31, E_X10_bitsOf_34, E_X10_bitsOf_35, gy_gok hy, yg_9 hy, yg_12 hy, h9, hge, ya_14 hy, yv_14 hy, i3, i4, a14, h2, if_true, if_false, Nat.reduceLT, gnk_i, gi_1]
      exact hi _ (by omega)
    · simp only [E_X10_bitsOf_0, E_X10_bitsOf_1, E_X10_bitsOf_2, E_X10_bitsOf_3, E_X10_bitsOf_5, E_X10_bitsOf_6, E_X10_bitsOf_9, E_X10_bitsOf_12, E_X10_bitsOf_13, E_X10_bitsOf_16, E_X10_bitsOf_17, E_X10_bitsOf_18, E_X10_bitsOf_19, E_X10_bitsOf_22, E_X10_bitsOf_23, E_X10_bitsOf_24, E_X10_bitsOf_25, E_X10_bitsOf_26, E_X10_bitsOf_27, E_X10_bitsOf_28, E_X10_bitsOf_31, E_X10_bitsOf_34, E_X10_bitsOf_35, gy_gok hy, yg_9 hy, yg_12 hy, h9, hge, ya_14 hy, yv_14 hy, i3, i4, a14, h2, if_true, if_false, Nat.reduceLT, gnk_i, gi_1]
      exact hi _ (by omega)
/-- Yard.bitsOf -/
theorem gy_bits (hR : gR s y f m p) (hk : gA_ok p) : gc_X w d 59 0 [some (.ref y), some (.int z), none, none] [] (gm_m s) Q = Q (some (.int (gA_bits p z p.1.2.2 0 0))) (gm_m s) := by
  have h := gy_bits_loop (w := w) (d := d) (z := z) (Q := Q) hR hk p.1.2.2 0 0 (by omega)
  rw [nI_0] at h
  simp only [E_X10_bitsOf_0, E_X10_bitsOf_1, E_X10_bitsOf_2, E_X10_bitsOf_3, gnk_i, gnk_n]
  exact h
end
