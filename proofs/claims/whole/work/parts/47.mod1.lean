section
variable {w : Nat × (Nat → Int32)} {d c t : Nat} {s : gm_S} {p : gA} {Q : Option Value → gc_M → Prop} {x : Int32}
/-- the facts, by their numbers -/
theorem m_factOf {k : Nat} (hR : mR s p) (hk : gA_ok p) (hc : c < p.1.2.1) (ht : t < p.1.2.2) (h6 : k < 6) : gc_X w d 144 0 [some (.ref 137), some (.int (nI k)), some (.int (nI c)), some (.int (nI t))] [] (gm_m s) Q = Q (some (.int (gA_fx p c t k))) (gm_m s) := by
  have hk1 := hk.1
  have hk2 := hk.2.1
  have i1 : vp_in (nI c) 6 := vp_in_nI (by omega) (by omega)
  have i2 : (nI c).toNatClampNeg = c := nI_clamp (by omega)
  have i3 : vp_in (nI t) 8 := vp_in_nI (by omega) (by omega)
  have i4 : (nI t).toNatClampNeg = t := nI_clamp (by omega)
  obtain ⟨a2, a3, -⟩ := hR.2.2.2.2.1 c hc
  obtain ⟨a12, -⟩ := hR.2.2.2.2.2 t ht
  have hh := hR.2.2.1
  have n10 : ¬ (10 : Int32) = 0 := by decide
  match k, h6 with
  | 0, _ => simp (decide := true) only [E_X12_factOf_0, E_X12_factOf_1, E_X12_factOf_36, E_X12_factOf_37, E_X12_factOf_38, E_X12_factOf_39, E_X12_factOf_42, E_X12_factOf_43, E_X12_factOf_44, E_X12_factOf_45, E_X12_factOf_46, E_X12_factOf_49, E_X12_factOf_50, E_X12_factOf_51, E_X12_factOf_52, E_X12_factOf_53, E_X12_factOf_54, E_X12_factOf_55, E_X12_factOf_58, E_X12_factOf_59, E_X12_factOf_60, E_X12_factOf_62, E_X12_factOf_63, E_X12_factOf_64, E_X12_factOf_65, E_X12_factOf_68, E_X12_factOf_70, E_X12_factOf_71, nI_0, if_true, if_false, gA_fx]
  | 1, _ =>
    rw [show nI 1 = 1 from rfl]
    simp (decide := true) only [E_X12_factOf_0, E_X12_factOf_1, E_X12_factOf_36, E_X12_factOf_37, E_X12_factOf_38, E_X12_factOf_39, E_X12_factOf_42, E_X12_factOf_43, E_X12_factOf_44, E_X12_factOf_45, E_X12_factOf_46, E_X12_factOf_49, E_X12_factOf_50, E_X12_factOf_51, E_X12_factOf_52, E_X12_factOf_53, E_X12_factOf_54, E_X12_factOf_55, E_X12_factOf_58, E_X12_factOf_59, E_X12_factOf_60, E_X12_factOf_62, E_X12_factOf_63, E_X12_factOf_64, E_X12_factOf_65, E_X12_factOf_68, E_X12_factOf_70, E_X12_factOf_71, rk_137, rg_137_4, ra_139, rv_139, i1, i2, a2, Nat.reduceLT, if_true, if_false, gA_fx]
  | 2, _ =>
    rw [show nI 2 = 2 from rfl]
    simp (decide := true) only [E_X12_factOf_0, E_X12_factOf_1, E_X12_factOf_36, E_X12_factOf_37, E_X12_factOf_38, E_X12_factOf_39, E_X12_factOf_42, E_X12_factOf_43, E_X12_factOf_44, E_X12_factOf_45, E_X12_factOf_46, E_X12_factOf_49, E_X12_factOf_50, E_X12_factOf_51, E_X12_factOf_52, E_X12_factOf_53, E_X12_factOf_54, E_X12_factOf_55, E_X12_factOf_58, E_X12_factOf_59, E_X12_factOf_60, E_X12_factOf_62, E_X12_factOf_63, E_X12_factOf_64, E_X12_factOf_65, E_X12_factOf_68, E_X12_factOf_70, E_X12_factOf_71, rk_137, rg_137_5, ra_140, rv_140, i1, i2, a3, Nat.reduceLT, if_true, if_false, gA_fx]
  | 3, _ =>
    rw [show nI 3 = 3 from rfl]
    simp (decide := true) only [E_X12_factOf_0, E_X12_factOf_1, E_X12_factOf_36, E_X12_factOf_37, E_X12_factOf_38, E_X12_factOf_39, E_X12_factOf_42, E_X12_factOf_43, E_X12_factOf_44, E_X12_factOf_45, E_X12_factOf_46, E_X12_factOf_49, E_X12_factOf_50, E_X12_factOf_51, E_X12_factOf_52, E_X12_factOf_53, E_X12_factOf_54, E_X12_factOf_55, E_X12_factOf_58, E_X12_factOf_59, E_X12_factOf_60, E_X12_factOf_62, E_X12_factOf_63, E_X12_factOf_64, E_X12_factOf_65, E_X12_factOf_68, E_X12_factOf_70, E_X12_factOf_71, if_true, if_false, gA_fx]
  | 4, _ =>
    rw [show nI 4 = 4 from rfl]
    simp (decide := true) only [E_X12_factOf_0, E_X12_factOf_1, E_X12_factOf_36, E_X12_factOf_37, E_X12_factOf_38, E_X12_factOf_39, E_X12_factOf_42, E_X12_factOf_43, E_X12_factOf_44, E_X12_factOf_45, E_X12_factOf_46, E_X12_factOf_49, E_X12_factOf_50, E_X12_factOf_51, E_X12_factOf_52, E_X12_factOf_53, E_X12_factOf_54, E_X12_factOf_55, E_X12_factOf_58, E_X12_factOf_59, E_X12_factOf_60, E_X12_factOf_62, E_X12_factOf_63, E_X12_factOf_64, E_X12_factOf_65, E_X12_factOf_68, E_X12_factOf_70, E_X12_factOf_71, rk_137, rg_137_8, ra_143, rv_143, i3, i4, a12, n10, not_false_eq_true, Nat.reduceLT, if_true, if_false, gA_fx]
  | 5, _ =>
    rw [show nI 5 = 5 from rfl]
    simp (decide := true) only [E_X12_factOf_0, E_X12_factOf_1, E_X12_factOf_36, E_X12_factOf_37, E_X12_factOf_38, E_X12_factOf_39, E_X12_factOf_42, E_X12_factOf_43, E_X12_factOf_44, E_X12_factOf_45, E_X12_factOf_46, E_X12_factOf_49, E_X12_factOf_50, E_X12_factOf_51, E_X12_factOf_52, E_X12_factOf_53, E_X12_factOf_54, E_X12_factOf_55, E_X12_factOf_58, E_X12_factOf_59, E_X12_factOf_60, E_X12_factOf_62, E_X12_factOf_63, E_X12_factOf_64, E_X12_factOf_65, E_X12_factOf_68, E_X12_factOf_70, E_X12_factOf_71, rk_137, rg_137_2, hh, n10, not_false_eq_true, Nat.reduceLT, if_true, if_false, gA_fx]
end
theorem gI_div {a b : Nat} (ha : a < 2 ^ 31) (hb : b < 2 ^ 31) : nI a / nI b = nI (a / b) := by
  have h := Nat.div_le_self a b
  apply Int32.toInt_inj.1
  rw [Int32.toInt_div, nI_toInt ha, nI_toInt hb, nI_toInt (by omega), ← Int.ofNat_tdiv]
  generalize a / b = q at h ⊢
  apply Int.bmod_eq_of_le
  · omega
  · omega
theorem gI_mul {a b : Nat} : nI a * nI b = nI (a * b) := (Int32.ofNat_mul a b).symm
theorem gI_sub {a b : Nat} (h : b ≤ a) : nI a - nI b = nI (a - b) := by
  have e : nI a = nI (a - b) + nI b := by
    rw [nI_add]
    congr 1
    omega
  rw [e, Int32.add_sub_cancel]
theorem gI_mod {a b : Nat} (ha : a < 2 ^ 31) (hb : b < 2 ^ 31) : nI a - nI a / nI b * nI b = nI (a % b) := by
  rw [gI_div ha hb, gI_mul, gI_sub (Nat.div_mul_le_self a b)]
  congr 1
  have h := Nat.div_add_mod a b
  rw [Nat.mul_comm] at h
  omega
/-- the text that holds: which, and how many clauses it has -/
def mThe (s : gm_S) : Option (Nat × Nat) → Prop
  | none => s.1 137 14 = -1
  | some (f, n) => s.1 137 14 = nI f ∧ f < 6 ∧ s.1 149 f = nI n ∧ n ≤ 10
def mBe : Option (Nat × Nat) → Nat
  | none => 0
  | some (f, _) => 10 * f
def mEn : Option (Nat × Nat) → Nat
  | none => 0
  | some (f, n) => 10 * f + n
section
variable {w : Nat × (Nat → Int32)} {d c t : Nat} {s : gm_S} {p : gA} {Q : Option Value → gc_M → Prop} {x : Int32} {o : Option (Nat × Nat)}
theorem m_blows (hR : mR s p) (hk : gA_ok p) : gc_X w d 147 0 [some (.ref 137)] [] (gm_m s) Q = Q (some (.int (p.2.1 1 (p.1.1 % 4)))) (gm_m s) := by
  have hk3 := hk.2.2.1
  have hh := hR.2.2.1
  have a1 := hR.2.2.2.1 (p.1.1 % 4) (by omega)
  have i1 : vp_in (nI (p.1.1 % 4)) 4 := vp_in_nI (by omega) (by omega)
  have i2 : (nI (p.1.1 % 4)).toNatClampNeg = p.1.1 % 4 := nI_clamp (by omega)
  have e4 : nI p.1.1 - nI p.1.1 / 4 * 4 = nI (p.1.1 % 4) := gI_mod (b := 4) (by omega) (by omega)
  have n4 : ¬ (4 : Int32) = 0 := by decide
  simp only [E_X12_blows_0, E_X12_blows_1, E_X12_blows_4, E_X12_blows_5, E_X12_blows_8, E_X12_blows_9, E_X12_blows_10, E_X12_blows_11, rk_137, rg_137_2, rg_137_3, hh, e4, n4, not_false_eq_true, ra_138, rv_138, i1, i2, a1, Nat.reduceLT]
theorem m_begin (ho : mThe s o) : gc_X w d 139 0 [some (.ref 137)] [] (gm_m s) Q = Q (some (.int (nI (mBe o)))) (gm_m s) := by
  cases o with
  | none =>
    have h : s.1 137 14 = -1 := ho
    simp (decide := true) only [E_X12_begin_0, E_X12_begin_1, E_X12_begin_4, E_X12_begin_7, E_X12_begin_8, E_X12_begin_11, E_X12_begin_13, E_X12_begin_14, E_X12_begin_17, E_X12_begin_18, rk_137, rg_137_14, h, if_false, mBe, nI_0, Nat.reduceLT]
  | some q =>
    obtain ⟨f, n⟩ := q
    obtain ⟨h, h6, -, -⟩ := ho
    have hp : 0 ≤ nI f := nI_pos' (by omega)
    have e : (10 : Int32) * nI f = nI (10 * f) := gI_mul (a := 10)
    simp only [E_X12_begin_0, E_X12_begin_1, E_X12_begin_4, E_X12_begin_7, E_X12_begin_8, E_X12_begin_11, E_X12_begin_13, E_X12_begin_14, E_X12_begin_17, E_X12_begin_18, rk_137, rg_137_14, h, hp, e, if_true, mBe, Nat.reduceLT]
theorem m_behind (ho : mThe s o) : gc_X w d 140 0 [some (.ref 137)] [] (gm_m s) Q = Q (some (.int (nI (mEn o)))) (gm_m s) := by
  cases o with
  | none =>
    have h : s.1 137 14 = -1 := ho
    simp (decide := true) only [E_X12_behind_0, E_X12_behind_1, E_X12_behind_4, E_X12_behind_7, E_X12_behind_8, E_X12_behind_11, E_X12_behind_13, E_X12_behind_14, E_X12_behind_17, E_X12_behind_18, E_X12_behind_19, E_X12_behind_22, E_X12_behind_23, E_X12_behind_26, E_X12_behind_27, E_X12_behind_28, rk_137, rg_137_14, h, if_false, mEn, nI_0, Nat.reduceLT]
  | some q =>
    obtain ⟨f, n⟩ := q
    obtain ⟨h, h6, hn, -⟩ := ho
    have hp : 0 ≤ nI f := nI_pos' (by omega)
    have e : (10 : Int32) * nI f = nI (10 * f) := gI_mul (a := 10)
    have i1 : vp_in (nI f) 6 := vp_in_nI (by omega) (by omega)
    have i2 : (nI f).toNatClampNeg = f := nI_clamp (by omega)
    simp only [E_X12_behind_0, E_X12_behind_1, E_X12_behind_4, E_X12_behind_7, E_X12_behind_8, E_X12_behind_11, E_X12_behind_13, E_X12_behind_14, E_X12_behind_17, E_X12_behind_18, E_X12_behind_19, E_X12_behind_22, E_X12_behind_23, E_X12_behind_26, E_X12_behind_27, E_X12_behind_28, rk_137, rg_137_14, rg_137_19, h, hp, e, if_true, mEn, ra_149, rv_149, i1, i2, hn, nI_add, Nat.reduceLT]
end
