/-- the last number of a kind of clause -/
def mLast (s : gm_S) (x : Int32) : Nat → Nat → Int32 → Int32
  | 0, _, v => v
  | n + 1, c, v => mLast s x n (c + 1) (if s.1 150 c = x then s.1 151 c else v)
theorem mEn_le {s : gm_S} {o : Option (Nat × Nat)} (ho : mThe s o) : mBe o ≤ mEn o ∧ mEn o ≤ 60 := by
  cases o with
  | none => exact ⟨Nat.le_refl _, by show (0 : Nat) ≤ 60; omega⟩
  | some q =>
    obtain ⟨f, n⟩ := q
    obtain ⟨-, h6, -, h10⟩ := ho
    show 10 * f ≤ 10 * f + n ∧ 10 * f + n ≤ 60
    omega
section
variable {w : Nat × (Nat → Int32)} {d : Nat} {s : gm_S} {p : gA} {Q : Option Value → gc_M → Prop} {x z : Int32} {o : Option (Nat × Nat)}
theorem m_last_loop (ho : mThe s o) : ∀ (n c : Nat) (v : Int32), c + n = mEn o → gc_X w (d + 1) 141 8 [some (.ref 137), some (.int x), some (.int z), some (.int v), some (.int (nI c))] [] (gm_m s) Q = Q (some (.int (mLast s x n c v))) (gm_m s) := by
  intro n
  have he := (mEn_le ho).2
  have hb := fun (Q : Option Value → gc_M → Prop) => m_behind (w := w) (d := d) (Q := Q) ho
  induction n with
  | zero =>
    intro c v hc
    have e : mEn o = c := by omega
    rw [e] at hb
    rw [E_X12_lastOf_8]
    simp only [E_X12_lastOf_0, E_X12_lastOf_1, E_X12_lastOf_2, E_X12_lastOf_3, E_X12_lastOf_6, E_X12_lastOf_10, E_X12_lastOf_11, E_X12_lastOf_14, E_X12_lastOf_17, E_X12_lastOf_18, E_X12_lastOf_21, E_X12_lastOf_23, E_X12_lastOf_24, E_X12_lastOf_25, E_X12_lastOf_28, E_X12_lastOf_29, E_X12_lastOf_32, E_X12_lastOf_34, E_X12_lastOf_35, E_X12_lastOf_38, E_X12_lastOf_39, E_X12_lastOf_40, E_X12_lastOf_43, E_X12_lastOf_46, E_X12_lastOf_47, rc_137, hb, nI_le (Nat.le_refl c) (by omega : c < 2 ^ 31), if_true, mLast, List.map_nil, List.map_cons, List.sum_cons, List.sum_nil, gcat_i, Nat.reduceAdd, Nat.reduceLeDiff, Nat.zero_le, Option.toList, List.cons_append, List.nil_append]
  | succ n ih =>
    intro c v hc
    have i1 : vp_in (nI c) 60 := vp_in_nI (by omega) (by omega)
    have i2 : (nI c).toNatClampNeg = c := nI_clamp (by omega)
    have hge : ¬ nI (mEn o) ≤ nI c := nI_ge (by omega) (by omega)
    have hi := fun v => ih (c + 1) v (by omega)
    rw [nI_succ] at hi
    rw [E_X12_lastOf_8, mLast]
    by_cases h : s.1 150 c = x
    · simp only [E_X12_lastOf_0, E_X12_lastOf_1, E_X12_lastOf_2, E_X12_lastOf_3, E_X12_lastOf_6, E_X12_lastOf_10, E_X12_lastOf_11, E_X12_lastOf_14, E_X12_lastOf_17, E_X12_lastOf_18, E_X12_lastOf_21, E_X12_lastOf_23, E_X12_lastOf_24, E_X12_lastOf_25, E_X12_lastOf_28, E_X12_lastOf_29, E_X12_lastOf_32, E_X12_lastOf_34, E_X12_lastOf_35, E_X12_lastOf_38, E_X12_lastOf_39, E_X12_lastOf_40, E_X12_lastOf_43, E_X12_lastOf_46, E_X12_lastOf_47, rk_137, rc_137, rg_137_20, rg_137_21, hb, hge, h, ra_150, rv_150, ra_151, rv_151, i1, i2, hi, if_true, if_false, Nat.reduceLT, List.map_nil, List.map_cons, List.sum_cons, List.sum_nil, gcat_i, Nat.reduceAdd, Nat.reduceLeDiff, Nat.zero_le, Option.toList, List.cons_append, List.nil_append, gnk_i, gi_1]
    · simp only [E_X12_lastOf_0, E_X12_lastOf_1, E_X12_lastOf_2, E_X12_lastOf_3, E_X12_lastOf_6, E_X12_lastOf_10, E_X12_lastOf_11, E_X12_lastOf_14, E_X12_lastOf_17, E_X12_lastOf_18, E_X12_lastOf_21, E_X12_lastOf_23, E_X12_lastOf_24, E_X12_lastOf_25, E_X12_lastOf_28, E_X12_lastOf_29, E_X12_lastOf_32, E_X12_lastOf_34, E_X12_lastOf_35, E_X12_lastOf_38, E_X12_lastOf_39, E_X12_lastOf_40, E_X12_lastOf_43, E_X12_lastOf_46, E_X12_lastOf_47, rk_137, rc_137, rg_137_20, rg_137_21, hb, hge, h, ra_150, rv_150, ra_151, rv_151, i1, i2, hi, if_true, if_false, Nat.reduceLT, List.map_nil, List.map_cons, List.sum_cons, List.sum_nil, gcat_i, Nat.reduceAdd, Nat.reduceLeDiff, Nat.zero_le, Option.toList, List.cons_append, List.nil_append, gnk_i, gi_1]
theorem m_last (ho : mThe s o) : gc_X w (d + 1) 141 0 [some (.ref 137), some (.int x), some (.int z), none, none] [] (gm_m s) Q = Q (some (.int (mLast s x (mEn o - mBe o) (mBe o) z))) (gm_m s) := by
  have h := m_last_loop (w := w) (d := d) (x := x) (z := z) (Q := Q) ho (mEn o - mBe o) (mBe o) z (by have := (mEn_le ho).1; omega)
  have hb := fun (Q : Option Value → gc_M → Prop) => m_begin (w := w) (d := d) (Q := Q) ho
  simp only [E_X12_lastOf_0, E_X12_lastOf_1, E_X12_lastOf_2, E_X12_lastOf_3, E_X12_lastOf_6, rc_137, hb, gnk_i, List.map_nil, List.sum_nil, Nat.zero_le, Option.toList, List.cons_append, List.nil_append]
  exact h
/-- bear and hang, of the reference -/
def mBear (s : gm_S) (o : Option (Nat × Nat)) : Int32 := mLast s 2 (mEn o - mBe o) (mBe o) 12
def mHang (s : gm_S) (o : Option (Nat × Nat)) : Int32 := mLast s 3 (mEn o - mBe o) (mBe o) 2
theorem m_bear (ho : mThe s o) : gc_X w (d + 2) 142 0 [some (.ref 137)] [] (gm_m s) Q = Q (some (.int (mBear s o))) (gm_m s) := by
  simp only [E_X12_bear_0, E_X12_bear_1, E_X12_bear_2, E_X12_bear_4, E_X12_bear_7, rc_137, m_last ho, mBear, List.map_nil, List.sum_nil, Nat.zero_le, Option.toList, List.cons_append, List.nil_append]
theorem m_hangs (ho : mThe s o) : gc_X w (d + 2) 143 0 [some (.ref 137)] [] (gm_m s) Q = Q (some (.int (mHang s o))) (gm_m s) := by
  simp only [E_X12_hang_0, E_X12_hang_1, E_X12_hang_2, E_X12_hang_3, E_X12_hang_6, rc_137, m_last ho, mHang, List.map_nil, List.sum_nil, Nat.zero_le, Option.toList, List.cons_append, List.nil_append]
end
