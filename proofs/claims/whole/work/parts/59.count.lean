/-! how many are in a state, on both sides -/
def gpc (n : Nat) : Nat := n % 2 + n / 2 % 2 + n / 4 % 2 + n / 8 % 2 + n / 16 % 2 + n / 32 % 2 + n / 64 % 2 + n / 128 % 2
def gpcI (i : Int32) : Int32 :=
  let a := i - ((i.toUInt32 >>> ((1 : Int32).toUInt32 &&& Int32.toUInt32 31)).toInt32 &&& 1431655765)
  let b := (a &&& 858993459) + ((a.toUInt32 >>> ((2 : Int32).toUInt32 &&& Int32.toUInt32 31)).toInt32 &&& 858993459)
  let c := (b + (b.toUInt32 >>> ((4 : Int32).toUInt32 &&& Int32.toUInt32 31)).toInt32) &&& 252645135
  let e := c + (c.toUInt32 >>> ((8 : Int32).toUInt32 &&& Int32.toUInt32 31)).toInt32
  let f := e + (e.toUInt32 >>> ((16 : Int32).toUInt32 &&& Int32.toUInt32 31)).toInt32
  f &&& 63
theorem gpcI_eq : ∀ n, n < 256 → gpcI (nI n) = nI (gpc n) := by decide +kernel
theorem gpc_le : ∀ n, n < 256 → gpc n ≤ 8 := by decide +kernel
theorem gnI_bit {m t : Nat} (hm : m < 2 ^ t) (ht : t < 8) : nI m ||| (1 : Int32) <<< (nI t &&& 31) = nI (m + 2 ^ t) := by
  have e : (1 : Int32) <<< (nI t &&& 31) = nI (1 * 2 ^ t) := by
    refine pk_shlN (n := 1) (nI t &&& 31) t (s_l t (by omega)) ?_
    have : 2 ^ t ≤ 2 ^ 7 := Nat.pow_le_pow_right (by omega) (by omega)
    omega
  rw [e, Nat.one_mul]
  apply Int32.toBitVec_inj.1
  show BitVec.ofNat 32 m ||| BitVec.ofNat 32 (2 ^ t) = BitVec.ofNat 32 (m + 2 ^ t)
  rw [← BitVec.ofNat_or]
  congr 1
  have h := Nat.two_pow_add_eq_or_of_lt (i := t) hm 1
  rw [Nat.mul_one] at h
  rw [Nat.add_comm, h, Nat.or_comm]
theorem gA_bits_lt {p : gA} {z : Int32} : ∀ {n t m : Nat}, t + n ≤ 8 → m < 2 ^ t → ∃ k, k < 2 ^ (t + n) ∧ gA_bits p z n t (nI m) = nI k
  | 0, t, m, _, hm => ⟨m, hm, rfl⟩
  | n + 1, t, m, hn, hm => by
    have h2 : 2 ^ (t + 1) = 2 ^ t + 2 ^ t := by rw [Nat.pow_succ]; omega
    have e : t + (n + 1) = t + 1 + n := by omega
    rw [gA_bits, e]
    split
    · rw [gnI_bit hm (by omega)]
      exact gA_bits_lt (by omega) (by omega)
    · exact gA_bits_lt (by omega) (by omega)
/-- how many things are in a state -/
def gA_cnt (p : gA) (z : Int32) : Int32 := gpcI (gA_bits p z p.1.2.2 0 0)
theorem gA_bits_8 {p : gA} {z : Int32} (hk : gA_ok p) : ∃ k, k < 256 ∧ gA_bits p z p.1.2.2 0 0 = nI k := by
  have h8 := hk.2.1
  obtain ⟨k, h1, h2⟩ := gA_bits_lt (p := p) (z := z) (n := p.1.2.2) (t := 0) (m := 0) (by omega) (by decide)
  refine ⟨k, ?_, h2⟩
  have : 2 ^ (0 + p.1.2.2) ≤ 2 ^ 8 := Nat.pow_le_pow_right (by omega) (by omega)
  omega
section
variable {w : Nat × (Nat → Int32)} {d y f m : Nat} {s : gm_S} {p : gA} {Q : Option Value → gc_M → Prop} {x z : Int32}
theorem j_bitCount : gc_X w d 216 0 [some (.int x)] [] (gm_m s) Q = Q (some (.int (gpcI x))) (gm_m s) := by
  simp only [E_J6_bitCount_0f7a4_0, E_J6_bitCount_0f7a4_1, E_J6_bitCount_0f7a4_2, E_J6_bitCount_0f7a4_3, E_J6_bitCount_0f7a4_4, E_J6_bitCount_0f7a4_7, E_J6_bitCount_0f7a4_8, E_J6_bitCount_0f7a4_9, E_J6_bitCount_0f7a4_10, E_J6_bitCount_0f7a4_11, E_J6_bitCount_0f7a4_14, E_J6_bitCount_0f7a4_15, E_J6_bitCount_0f7a4_16, E_J6_bitCount_0f7a4_17, E_J6_bitCount_0f7a4_18, E_J6_bitCount_0f7a4_21, E_J6_bitCount_0f7a4_22, E_J6_bitCount_0f7a4_23, E_J6_bitCount_0f7a4_24, E_J6_bitCount_0f7a4_25, E_J6_bitCount_0f7a4_26, E_J6_bitCount_0f7a4_27, E_J6_bitCount_0f7a4_28, E_J6_bitCount_0f7a4_29, E_J6_bitCount_0f7a4_32, E_J6_bitCount_0f7a4_33, E_J6_bitCount_0f7a4_34, E_J6_bitCount_0f7a4_35, E_J6_bitCount_0f7a4_36, E_J6_bitCount_0f7a4_38, E_J6_bitCount_0f7a4_39, E_J6_bitCount_0f7a4_40, E_J6_bitCount_0f7a4_41, E_J6_bitCount_0f7a4_42, E_J6_bitCount_0f7a4_43, E_J6_bitCount_0f7a4_45, E_J6_bitCount_0f7a4_46, E_J6_bitCount_0f7a4_47, E_J6_bitCount_0f7a4_48, E_J6_bitCount_0f7a4_49, E_J6_bitCount_0f7a4_51, E_J6_bitCount_0f7a4_52, gpcI]
/-- how many of a yard are in a state -/
theorem gy_howMany (hR : gR s y f m p) (hk : gA_ok p) : gc_X w (d + 1) 58 0 [some (.ref y), some (.int z)] [] (gm_m s) Q = Q (some (.int (gA_cnt p z))) (gm_m s) := by
  have hb := fun (Q : Option Value → gc_M → Prop) => gy_bits (w := w) (d := d) (z := z) (Q := Q) hR hk
  simp only [E_X10_howMany_0, E_X10_howMany_1, E_X10_howMany_2, E_X10_howMany_5, E_X10_howMany_8, gy_cl hR.1, hb, j_bitCount, gA_cnt, List.map_nil, List.map_cons, List.sum_cons, List.sum_nil, gcat_i, gcat_r, gcat_l, Nat.reduceAdd, Nat.reduceLeDiff, Nat.zero_le, Option.toList, List.cons_append, List.nil_append, gnk_i, gnk_r, gnk_n, gi_1, Nat.reduceLT, if_true, if_false]
/-- one bit -/
theorem m_has {n k : Nat} (hn : n < 2 ^ 31) (hk : k < 32) : gc_X w d 111 0 [some (.ref 137), some (.int (nI n)), some (.int (nI k))] [] (gm_m s) Q = Q (some (.int (nI (n / 2 ^ k % 2)))) (gm_m s) := by
  have e1 : nI n >>> (nI k &&& 31) = nI (n / 2 ^ k) := pk_shrN hn _ k (s_l k hk)
  have hd : n / 2 ^ k ≤ n := Nat.div_le_self _ _
  have e2 : nI (n / 2 ^ k) &&& 1 = nI (n / 2 ^ k % 2) := pk_andN (by omega) (m := 1) 1 (by decide)
  have hm : n / 2 ^ k % 2 = 0 ∨ n / 2 ^ k % 2 = 1 := by omega
  rcases hm with e | e
  · rw [e] at e2 ⊢
    simp (decide := true) only [E_X12_has_0, E_X12_has_1, E_X12_has_2, E_X12_has_3, E_X12_has_4, E_X12_has_5, E_X12_has_6, E_X12_has_9, E_X12_has_10, E_X12_has_13, E_X12_has_14, e1, e2, nI_0, if_true, if_false, gb_n0]
  · rw [e] at e2 ⊢
    rw [show nI 1 = 1 from rfl] at e2 ⊢
    simp (decide := true) only [E_X12_has_0, E_X12_has_1, E_X12_has_2, E_X12_has_3, E_X12_has_4, E_X12_has_5, E_X12_has_6, E_X12_has_9, E_X12_has_10, E_X12_has_13, E_X12_has_14, e1, e2, if_true, if_false, gb_n1]
/-- how many bits from k on -/
def gpcN (n : Nat) : Nat → Nat → Nat
  | 0, _ => 0
  | m + 1, k => n / 2 ^ k % 2 + gpcN n m (k + 1)
theorem m_bits_loop {n : Nat} (hn : n < 256) : ∀ (m k a : Nat), k + m = 8 → gc_X w (d + 1) 113 4 [some (.ref 137), some (.int (nI n)), some (.int (nI a)), some (.int (nI k))] [] (gm_m s) Q = Q (some (.int (nI (a + gpcN n m k)))) (gm_m s) := by
  intro m
  induction m with
  | zero =>
    intro k a hk
    have e : k = 8 := by omega
    subst e
    rw [E_X12_bits_4]
    simp (decide := true) only [E_X12_bits_5, E_X12_bits_7, E_X12_bits_33, E_X12_bits_34, if_true, gpcN, Nat.add_zero]
  | succ m ih =>
    intro k a hk
    have hge : ¬ (8 : Int32) ≤ nI k := nI_ge (b := 8) (by omega) (by omega)
    have hh := fun (Q : Option Value → gc_M → Prop) => m_has (w := w) (d := d) (s := s) (Q := Q) (n := n) (k := k) (by omega) (by omega)
    have hi := fun a => ih (k + 1) a (by omega)
    rw [nI_succ] at hi
    have hm : n / 2 ^ k % 2 = 0 ∨ n / 2 ^ k % 2 = 1 := by omega
    have h0 : nI a + 0 = nI a := Int32.add_zero _
    have h1 : nI a + 1 = nI (a + 1) := nI_1 a
    rw [E_X12_bits_4, gpcN]
    rcases hm with e | e
    · rw [e] at hh ⊢
      rw [nI_0] at hh
      simp (decide := true) only [E_X12_bits_0, E_X12_bits_1, E_X12_bits_2, E_X12_bits_3, E_X12_bits_5, E_X12_bits_7, E_X12_bits_10, E_X12_bits_11, E_X12_bits_12, E_X12_bits_13, E_X12_bits_14, E_X12_bits_17, E_X12_bits_20, E_X12_bits_21, E_X12_bits_24, E_X12_bits_25, E_X12_bits_26, E_X12_bits_27, E_X12_bits_30, E_X12_bits_33, E_X12_bits_34, rc_137, hge, hh, h0, hi, Nat.zero_add, List.map_nil, List.map_cons, List.sum_cons, List.sum_nil, gcat_i, gcat_r, gcat_l, Nat.reduceAdd, Nat.reduceLeDiff, Nat.zero_le, Option.toList, List.cons_append, List.nil_append, gnk_i, gnk_r, gnk_n, gi_1, Nat.reduceLT, if_true, if_false]
    · rw [e] at hh ⊢
      rw [show nI 1 = 1 from rfl] at hh
      simp (decide := true) only [E_X12_bits_0, E_X12_bits_1, E_X12_bits_2, E_X12_bits_3, E_X12_bits_5, E_X12_bits_7, E_X12_bits_10, E_X12_bits_11, E_X12_bits_12, E_X12_bits_13, E_X12_bits_14, E_X12_bits_17, E_X12_bits_20, E_X12_bits_21, E_X12_bits_24, E_X12_bits_25, E_X12_bits_26, E_X12_bits_27, E_X12_bits_30, E_X12_bits_33, E_X12_bits_34, rc_137, hge, hh, h1, hi, Nat.add_assoc, List.map_nil, List.map_cons, List.sum_cons, List.sum_nil, gcat_i, gcat_r, gcat_l, Nat.reduceAdd, Nat.reduceLeDiff, Nat.zero_le, Option.toList, List.cons_append, List.nil_append, gnk_i, gnk_r, gnk_n, gi_1, Nat.reduceLT, if_true, if_false]
theorem m_bits {n : Nat} (hn : n < 256) : gc_X w (d + 1) 113 0 [some (.ref 137), some (.int (nI n)), none, none] [] (gm_m s) Q = Q (some (.int (nI (gpc n)))) (gm_m s) := by
  have h := m_bits_loop (w := w) (d := d) (s := s) (Q := Q) hn 8 0 0 rfl
  have e : 0 + gpcN n 8 0 = gpc n := by
    show 0 + (n / 2 ^ 0 % 2 + (n / 2 ^ 1 % 2 + (n / 2 ^ 2 % 2 + (n / 2 ^ 3 % 2 + (n / 2 ^ 4 % 2 + (n / 2 ^ 5 % 2 + (n / 2 ^ 6 % 2 + (n / 2 ^ 7 % 2 + 0)))))))) = _
    unfold gpc
    simp only [Nat.reducePow, Nat.div_one]
    omega
  rw [e, nI_0] at h
  simp only [E_X12_bits_0, E_X12_bits_1, E_X12_bits_2, E_X12_bits_3, gnk_i, gnk_r, gnk_n, gi_1, Nat.reduceLT, if_true, if_false]
  exact h
theorem m_setOf_loop (hR : mR s p) (hk : gA_ok p) : ∀ (n t : Nat) (b : Int32), t + n = p.1.2.2 → gc_X w d 158 4 [some (.ref 137), some (.int z), some (.int b), some (.int (nI t))] [] (gm_m s) Q = Q (some (.int (gA_bits p z n t b))) (gm_m s) := by
  intro n
  have hk2 := hk.2.1
  have h9 := hR.2.1
  induction n with
  | zero =>
    intro t b ht
    have e : p.1.2.2 = t := by omega
    rw [e] at h9
    rw [E_X12_setOf_4]
    simp only [E_X12_setOf_0, E_X12_setOf_1, E_X12_setOf_2, E_X12_setOf_3, E_X12_setOf_5, E_X12_setOf_6, E_X12_setOf_9, E_X12_setOf_12, E_X12_setOf_13, E_X12_setOf_14, E_X12_setOf_17, E_X12_setOf_18, E_X12_setOf_19, E_X12_setOf_20, E_X12_setOf_23, E_X12_setOf_24, E_X12_setOf_25, E_X12_setOf_26, E_X12_setOf_29, E_X12_setOf_30, E_X12_setOf_31, E_X12_setOf_32, E_X12_setOf_35, E_X12_setOf_38, E_X12_setOf_39, rk_137, rg_137_1, h9, nI_le (Nat.le_refl t) (by omega : t < 2 ^ 31), gA_bits, gnk_i, gnk_r, gnk_n, gi_1, Nat.reduceLT, if_true, if_false]
  | succ n ih =>
    intro t b ht
    have i3 : vp_in (nI t) 8 := vp_in_nI (by omega) (by omega)
    have i4 : (nI t).toNatClampNeg = t := nI_clamp (by omega)
    obtain ⟨-, -, a14, -, -⟩ := hR.2.2.2.2.2 t (by omega)
    have hge : ¬ nI p.1.2.2 ≤ nI t := nI_ge (by omega) (by omega)
    have hi := fun b => ih (t + 1) b (by omega)
    rw [nI_succ] at hi
    have h0 : b ||| 0 = b := Int32.or_zero
    rw [E_X12_setOf_4, gA_bits]
    by_cases h2 : p.2.1 14 t = z <;>
      simp only [E_X12_setOf_0, E_X12_setOf_1, E_X12_setOf_2, E_X12_setOf_3, E_X12_setOf_5, E_X12_setOf_6, E_X12_setOf_9, E_X12_setOf_12, E_X12_setOf_13, E_X12_setOf_14, E_X12_setOf_17, E_X12_setOf_18, E_X12_setOf_19, E_X12_setOf_20, E_X12_setOf_23, E_X12_setOf_24, E_X12_setOf_25, E_X12_setOf_26, E_X12_setOf_29, E_X12_setOf_30, E_X12_setOf_31, E_X12_setOf_32, E_X12_setOf_35, E_X12_setOf_38, E_X12_setOf_39, rk_137, rg_137_1, rg_137_10, h9, hge, ra_145, rv_145, i3, i4, a14, h2, h0, hi, gnk_i, gnk_r, gnk_n, gi_1, Nat.reduceLT, if_true, if_false]
theorem m_setOf (hR : mR s p) (hk : gA_ok p) : gc_X w d 158 0 [some (.ref 137), some (.int z), none, none] [] (gm_m s) Q = Q (some (.int (gA_bits p z p.1.2.2 0 0))) (gm_m s) := by
  have h := m_setOf_loop (w := w) (d := d) (z := z) (Q := Q) hR hk p.1.2.2 0 0 (by omega)
  rw [nI_0] at h
  simp only [E_X12_setOf_0, E_X12_setOf_1, E_X12_setOf_2, E_X12_setOf_3, gnk_i, gnk_r, gnk_n, gi_1, Nat.reduceLT, if_true, if_false]
  exact h
/-- the bits of a set of things, counted -/
theorem m_cnt (hk : gA_ok p) : gc_X w (d + 1) 113 0 [some (.ref 137), some (.int (gA_bits p z p.1.2.2 0 0)), none, none] [] (gm_m s) Q = Q (some (.int (gA_cnt p z))) (gm_m s) := by
  obtain ⟨k, h1, h2⟩ := gA_bits_8 (z := z) hk
  unfold gA_cnt
  rw [h2, gpcI_eq k h1, m_bits h1]
end
