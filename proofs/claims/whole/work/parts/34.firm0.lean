/-! a firm: 28, 32, …, 48, and the bare one, 79 -/
def gF_is (f : Nat) : Prop := f = 28 ∨ f = 32 ∨ f = 36 ∨ f = 40 ∨ f = 44 ∨ f = 48 ∨ f = 79
theorem gF_gv {s : gm_S} {f : Nat} (h : gF_is f) : gm_gv (gm_m s) f 0 = .int (s.1 f 0) ∧ gm_gv (gm_m s) f 1 = .int (s.1 f 1) ∧ gm_gv (gm_m s) f 2 = .ref (f + 1) ∧ gm_gv (gm_m s) f 3 = .ref (f + 2) ∧ gm_gv (gm_m s) f 4 = .ref (f + 3) ∧ gm_gv (gm_m s) f 5 = .int (s.1 f 5) ∧ gm_gv (gm_m s) f 6 = va_rf (s.2.1 f 6) ∧ gm_gv (gm_m s) f 7 = .int (s.1 f 7) ∧ gm_gv (gm_m s) f 8 = .int (s.1 f 8) ∧ gm_gv (gm_m s) f 9 = .int (s.1 f 9) := by
  rcases h with rfl | rfl | rfl | rfl | rfl | rfl | rfl <;> exact ⟨rfl, rfl, rfl, rfl, rfl, rfl, rfl, rfl, rfl, rfl⟩
theorem gF_gok {s : gm_S} {f k : Nat} (h : gF_is f) (hk : k < 10) : gm_gok (gm_m s) [1] f k = true := by
  rcases h with rfl | rfl | rfl | rfl | rfl | rfl | rfl <;> exact gm_m_gok (ci := 1) (by decide) rfl hk rfl
theorem gF_cl {s : gm_S} {f : Nat} (h : gF_is f) : gm_cl (gm_m s) f 1 = true := by
  rcases h with rfl | rfl | rfl | rfl | rfl | rfl | rfl <;> rfl
theorem gF_arr {f k : Nat} (h : gF_is f) (hk : k ∈ [0, 1, 2]) : f + (k + 1) < 192 ∧ gm_sh (f + (k + 1)) = (0, 100, []) := by
  rcases h with rfl | rfl | rfl | rfl | rfl | rfl | rfl <;> (simp only [List.mem_cons, List.not_mem_nil, or_false] at hk; rcases hk with rfl | rfl | rfl <;> exact ⟨by decide, rfl⟩)
theorem Fa_1 {s : gm_S} {f : Nat} {i : Int32} (h : gF_is f) : gm_ai (gm_m s) 0 (f + 1) i = vp_in i 100 := gm_m_ai (gF_arr (k := 0) h (by decide)).1 (gF_arr (k := 0) h (by decide)).2 (Or.inl rfl)
theorem Fa_2 {s : gm_S} {f : Nat} {i : Int32} (h : gF_is f) : gm_ai (gm_m s) 0 (f + 2) i = vp_in i 100 := gm_m_ai (gF_arr (k := 1) h (by decide)).1 (gF_arr (k := 1) h (by decide)).2 (Or.inl rfl)
theorem Fa_3 {s : gm_S} {f : Nat} {i : Int32} (h : gF_is f) : gm_ai (gm_m s) 0 (f + 3) i = vp_in i 100 := gm_m_ai (gF_arr (k := 2) h (by decide)).1 (gF_arr (k := 2) h (by decide)).2 (Or.inl rfl)
theorem Fv_1 {s : gm_S} {f j : Nat} (h : gF_is f) : gm_av (gm_m s) (f + 1) j = s.1 (f + 1) j := gm_m_av (gF_arr (k := 0) h (by decide)).1 (gF_arr (k := 0) h (by decide)).2 (Or.inl rfl)
theorem Fv_2 {s : gm_S} {f j : Nat} (h : gF_is f) : gm_av (gm_m s) (f + 2) j = s.1 (f + 2) j := gm_m_av (gF_arr (k := 1) h (by decide)).1 (gF_arr (k := 1) h (by decide)).2 (Or.inl rfl)
theorem Fv_3 {s : gm_S} {f j : Nat} (h : gF_is f) : gm_av (gm_m s) (f + 3) j = s.1 (f + 3) j := gm_m_av (gF_arr (k := 2) h (by decide)).1 (gF_arr (k := 2) h (by decide)).2 (Or.inl rfl)
theorem Fs_1 {s : gm_S} {f j : Nat} {x : Int32} (h : gF_is f) : gm_as (gm_m s) (f + 1) j x = gm_m (gm_si s (f + 1) j x) := gm_m_as (gF_arr (k := 0) h (by decide)).1 (gF_arr (k := 0) h (by decide)).2 (Or.inl rfl)
theorem Fs_2 {s : gm_S} {f j : Nat} {x : Int32} (h : gF_is f) : gm_as (gm_m s) (f + 2) j x = gm_m (gm_si s (f + 2) j x) := gm_m_as (gF_arr (k := 1) h (by decide)).1 (gF_arr (k := 1) h (by decide)).2 (Or.inl rfl)
theorem Fs_3 {s : gm_S} {f j : Nat} {x : Int32} (h : gF_is f) : gm_as (gm_m s) (f + 3) j x = gm_m (gm_si s (f + 3) j x) := gm_m_as (gF_arr (k := 2) h (by decide)).1 (gF_arr (k := 2) h (by decide)).2 (Or.inl rfl)
theorem Fg_0 {s : gm_S} {f : Nat} (h : gF_is f) : gm_gv (gm_m s) f 0 = .int (s.1 f 0) := (gF_gv h).1
theorem Fg_1 {s : gm_S} {f : Nat} (h : gF_is f) : gm_gv (gm_m s) f 1 = .int (s.1 f 1) := (gF_gv h).2.1
theorem Fg_2 {s : gm_S} {f : Nat} (h : gF_is f) : gm_gv (gm_m s) f 2 = .ref (f + 1) := (gF_gv h).2.2.1
theorem Fg_3 {s : gm_S} {f : Nat} (h : gF_is f) : gm_gv (gm_m s) f 3 = .ref (f + 2) := (gF_gv h).2.2.2.1
theorem Fg_4 {s : gm_S} {f : Nat} (h : gF_is f) : gm_gv (gm_m s) f 4 = .ref (f + 3) := (gF_gv h).2.2.2.2.1
theorem Fg_5 {s : gm_S} {f : Nat} (h : gF_is f) : gm_gv (gm_m s) f 5 = .int (s.1 f 5) := (gF_gv h).2.2.2.2.2.1
theorem Fg_6 {s : gm_S} {f : Nat} (h : gF_is f) : gm_gv (gm_m s) f 6 = va_rf (s.2.1 f 6) := (gF_gv h).2.2.2.2.2.2.1
theorem Fg_7 {s : gm_S} {f : Nat} (h : gF_is f) : gm_gv (gm_m s) f 7 = .int (s.1 f 7) := (gF_gv h).2.2.2.2.2.2.2.1
theorem Fg_8 {s : gm_S} {f : Nat} (h : gF_is f) : gm_gv (gm_m s) f 8 = .int (s.1 f 8) := (gF_gv h).2.2.2.2.2.2.2.2.1
theorem Fg_9 {s : gm_S} {f : Nat} (h : gF_is f) : gm_gv (gm_m s) f 9 = .int (s.1 f 9) := (gF_gv h).2.2.2.2.2.2.2.2.2
/-- Firm.isSo -/
def gF_so (s : gm_S) (f : Nat) (fx : Nat → Int32) (i : Nat) : Bool :=
  if s.1 (f + 1) i = 0 then !decide (s.1 (f + 3) i ≤ fx (s.1 (f + 2) i).toNatClampNeg)
  else if s.1 (f + 1) i = 1 then decide (fx (s.1 (f + 2) i).toNatClampNeg = s.1 (f + 3) i)
  else !decide (fx (s.1 (f + 2) i).toNatClampNeg ≤ s.1 (f + 3) i)
def gb_i (b : Bool) : Int32 := if b then 1 else 0
theorem gb_n0 : vp_nar .boolean 0 = 0 := Eq.trans rfl rfl
theorem gb_n1 : vp_nar .boolean 1 = 1 := Eq.trans rfl rfl
/-- what a firm that was read keeps to: n steps, each letter one of six -/
def gF_ok (s : gm_S) (f n : Nat) : Prop := s.1 f 5 = nI n ∧ n ≤ 100 ∧ ∀ i, i < n → vp_in (s.1 (f + 2) i) 6
theorem gF_isSo {w : Nat × (Nat → Int32)} {d f y n i : Nat} {s : gm_S} {Q : Option Value → gc_M → Prop} (hf : gF_is f) (hy : gy_is y) (ho : gF_ok s f n) (hi : i < n) : gc_X w d 10 0 [some (.ref f), some (.int (nI i)), some (.ref (y + 17)), none] [] (gm_m s) Q = Q (some (.int (gb_i (gF_so s f (s.1 (y + 17)) i)))) (gm_m s) := by
  obtain ⟨-, h100, hl⟩ := ho
  have hl := hl i hi
  have hin : vp_in (nI i) 100 := vp_in_nI (by omega) (by omega)
  have hc : (nI i).toNatClampNeg = i := nI_clamp (by omega)
  by_cases h0 : s.1 (f + 1) i = 0
  · by_cases hA : s.1 (f + 3) i ≤ s.1 (y + 17) (s.1 (f + 2) i).toNatClampNeg <;>
      simp (decide := true) only [E_X1_isSo_0, E_X1_isSo_1, E_X1_isSo_2, E_X1_isSo_5, E_X1_isSo_6, E_X1_isSo_7, E_X1_isSo_8, E_X1_isSo_9, E_X1_isSo_10, E_X1_isSo_13, E_X1_isSo_14, E_X1_isSo_15, E_X1_isSo_40, E_X1_isSo_41, E_X1_isSo_42, E_X1_isSo_45, E_X1_isSo_46, E_X1_isSo_47, E_X1_isSo_50, E_X1_isSo_51, E_X1_isSo_54, E_X1_isSo_55, E_X1_isSo_56, E_X1_isSo_57, E_X1_isSo_58, E_X1_isSo_61, E_X1_isSo_62, E_X1_isSo_63, E_X1_isSo_66, E_X1_isSo_67, E_X1_isSo_70, E_X1_isSo_71, E_X1_isSo_72, E_X1_isSo_73, E_X1_isSo_74, E_X1_isSo_77, E_X1_isSo_78, E_X1_isSo_79, E_X1_isSo_82, E_X1_isSo_83, E_X1_isSo_86, E_X1_isSo_87, gF_gok hf, Fg_2 hf, Fg_3 hf, Fg_4 hf, Fa_1 hf, Fa_2 hf, Fa_3 hf, Fv_1 hf, Fv_2 hf, Fv_3 hf, ya_17 hy, yv_17 hy, Nat.reduceLT, hin, hc, hl, gnk_i, gnk_n, gnk_r, h0, hA, if_true, if_false, gF_so, gb_i, gb_n0, gb_n1, decide_true, decide_false, Bool.not_true, Bool.not_false, Bool.false_eq_true]
  by_cases h1 : s.1 (f + 1) i = 1
  · by_cases hA : s.1 (y + 17) (s.1 (f + 2) i).toNatClampNeg = s.1 (f + 3) i <;>
      simp (decide := true) only [E_X1_isSo_0, E_X1_isSo_1, E_X1_isSo_2, E_X1_isSo_5, E_X1_isSo_6, E_X1_isSo_7, E_X1_isSo_8, E_X1_isSo_9, E_X1_isSo_10, E_X1_isSo_13, E_X1_isSo_14, E_X1_isSo_15, E_X1_isSo_40, E_X1_isSo_41, E_X1_isSo_42, E_X1_isSo_45, E_X1_isSo_46, E_X1_isSo_47, E_X1_isSo_50, E_X1_isSo_51, E_X1_isSo_54, E_X1_isSo_55, E_X1_isSo_56, E_X1_isSo_57, E_X1_isSo_58, E_X1_isSo_61, E_X1_isSo_62, E_X1_isSo_63, E_X1_isSo_66, E_X1_isSo_67, E_X1_isSo_70, E_X1_isSo_71, E_X1_isSo_72, E_X1_isSo_73, E_X1_isSo_74, E_X1_isSo_77, E_X1_isSo_78, E_X1_isSo_79, E_X1_isSo_82, E_X1_isSo_83, E_X1_isSo_86, E_X1_isSo_87, gF_gok hf, Fg_2 hf, Fg_3 hf, Fg_4 hf, Fa_1 hf, Fa_2 hf, Fa_3 hf, Fv_1 hf, Fv_2 hf, Fv_3 hf, ya_17 hy, yv_17 hy, Nat.reduceLT, hin, hc, hl, gnk_i, gnk_n, gnk_r, h0, h1, hA, if_true, if_false, gF_so, gb_i, gb_n0, gb_n1, decide_true, decide_false, Bool.not_true, Bool.not_false, Bool.false_eq_true]
  · by_cases hA : s.1 (y + 17) (s.1 (f + 2) i).toNatClampNeg ≤ s.1 (f + 3) i <;>
      simp (decide := true) only [E_X1_isSo_0, E_X1_isSo_1, E_X1_isSo_2, E_X1_isSo_5, E_X1_isSo_6, E_X1_isSo_7, E_X1_isSo_8, E_X1_isSo_9, E_X1_isSo_10, E_X1_isSo_13, E_X1_isSo_14, E_X1_isSo_15, E_X1_isSo_40, E_X1_isSo_41, E_X1_isSo_42, E_X1_isSo_45, E_X1_isSo_46, E_X1_isSo_47, E_X1_isSo_50, E_X1_isSo_51, E_X1_isSo_54, E_X1_isSo_55, E_X1_isSo_56, E_X1_isSo_57, E_X1_isSo_58, E_X1_isSo_61, E_X1_isSo_62, E_X1_isSo_63, E_X1_isSo_66, E_X1_isSo_67, E_X1_isSo_70, E_X1_isSo_71, E_X1_isSo_72, E_X1_isSo_73, E_X1_isSo_74, E_X1_isSo_77, E_X1_isSo_78, E_X1_isSo_79, E_X1_isSo_82, E_X1_isSo_83, E_X1_isSo_86, E_X1_isSo_87, gF_gok hf, Fg_2 hf, Fg_3 hf, Fg_4 hf, Fa_1 hf, Fa_2 hf, Fa_3 hf, Fv_1 hf, Fv_2 hf, Fv_3 hf, ya_17 hy, yv_17 hy, Nat.reduceLT, hin, hc, hl, gnk_i, gnk_n, gnk_r, h0, h1, hA, if_true, if_false, gF_so, gb_i, gb_n0, gb_n1, decide_true, decide_false, Bool.not_true, Bool.not_false, Bool.false_eq_true]
/-- a step of Firm.sum: the sum, and the answers still open -/
def gF_st (s : gm_S) (f : Nat) (fx : Nat → Int32) (i : Nat) (p : Int32 × Int32) : Int32 × Int32 :=
  if s.1 (f + 1) i = 3 then (p.1, p.2 ^^^ 1)
  else if s.1 (f + 1) i = 4 then (p.1, p.2 >>> (1 &&& 31) &&& (p.2 &&& 1 ||| -2))
  else if s.1 (f + 1) i = 5 then (p.1, p.2 >>> (1 &&& 31) ||| p.2 &&& 1)
  else if s.1 (f + 1) i = 6 then (p.1 + (p.2 &&& 1) * s.1 (f + 3) i, 0)
  else if s.1 (f + 1) i = 7 then (p.1 - (p.2 &&& 1) * s.1 (f + 3) i, 0)
  else (p.1, p.2 <<< (1 &&& 31) ||| gb_i (gF_so s f fx i))
def gF_sts (s : gm_S) (f : Nat) (fx : Nat → Int32) : Nat → Nat → Int32 × Int32 → Int32 × Int32
  | 0, _, p => p
  | n + 1, i, p => gF_sts s f fx n (i + 1) (gF_st s f fx i p)
/-- Firm.sum -/
def gF_sum (s : gm_S) (f n : Nat) (fx : Nat → Int32) : Int32 := (gF_sts s f fx n 0 (30, 0)).1
theorem gF_sum_loop {w : Nat × (Nat → Int32)} {d f y m : Nat} {s : gm_S} {Q : Option Value → gc_M → Prop} (hf : gF_is f) (hy : gy_is y) (ho : gF_ok s f m) : ∀ (n i : Nat) (p : Int32 × Int32) (l5 : Option Value), i + n = m → gc_X w (d + 1) 9 8 [some (.ref f), some (.ref (y + 17)), some (.int p.1), some (.int p.2), some (.int (nI i)), l5] [] (gm_m s) Q = Q (some (.int (gF_sts s f (s.1 (y + 17)) n i p).1)) (gm_m s) := by
  intro n
  induction n with
  | zero =>
    intro i p l5 ht
    have e : i = m := by omega
    subst e
    rw [E_X1_sum_8]
    simp (decide := true) only [E_X1_sum_0, E_X1_sum_2, E_X1_sum_3, E_X1_sum_4, E_X1_sum_5, E_X1_sum_6, E_X1_sum_10, E_X1_sum_11, E_X1_sum_14, E_X1_sum_17, E_X1_sum_18, E_X1_sum_19, E_X1_sum_20, E_X1_sum_22, E_X1_sum_23, E_X1_sum_26, E_X1_sum_28, E_X1_sum_29, E_X1_sum_64, E_X1_sum_65, E_X1_sum_66, E_X1_sum_67, E_X1_sum_68, E_X1_sum_71, E_X1_sum_72, E_X1_sum_73, E_X1_sum_74, E_X1_sum_76, E_X1_sum_78, E_X1_sum_79, E_X1_sum_80, E_X1_sum_81, E_X1_sum_84, E_X1_sum_85, E_X1_sum_86, E_X1_sum_87, E_X1_sum_89, E_X1_sum_90, E_X1_sum_91, E_X1_sum_94, E_X1_sum_95, E_X1_sum_97, E_X1_sum_98, E_X1_sum_101, E_X1_sum_103, E_X1_sum_104, E_X1_sum_105, E_X1_sum_106, E_X1_sum_107, E_X1_sum_108, E_X1_sum_109, E_X1_sum_112, E_X1_sum_113, E_X1_sum_115, E_X1_sum_116, E_X1_sum_119, E_X1_sum_121, E_X1_sum_122, E_X1_sum_123, E_X1_sum_124, E_X1_sum_125, E_X1_sum_126, E_X1_sum_127, E_X1_sum_130, E_X1_sum_131, E_X1_sum_132, E_X1_sum_133, E_X1_sum_134, E_X1_sum_136, E_X1_sum_137, E_X1_sum_140, E_X1_sum_143, E_X1_sum_144, E_X1_sum_147, E_X1_sum_148, E_X1_sum_149, E_X1_sum_150, E_X1_sum_153, E_X1_sum_156, E_X1_sum_157, gF_gok hf, Fg_5 hf, ho.1, nI_le (Nat.le_refl i) (by have := ho.2.1; omega : i < 2 ^ 31), if_true, gF_sts, Nat.reduceLT]
  | succ n ih =>
    intro i p l5 ht
    have hlt : i < m := by omega
    have h1 := ho.2.1
    have hin : vp_in (nI i) 100 := vp_in_nI (by omega) (by omega)
    have hc : (nI i).toNatClampNeg = i := nI_clamp (by omega)
    have hge : ¬ nI m ≤ nI i := nI_ge hlt (by omega)
    have hi : ∀ (a b : Int32) (l5 : Option Value), gc_X w (d + 1) 9 8 [some (.ref f), some (.ref (y + 17)), some (.int a), some (.int b), some (.int (nI i + 1)), l5] [] (gm_m s) Q = Q (some (.int (gF_sts s f (s.1 (y + 17)) n (i + 1) (a, b)).1)) (gm_m s) := by
      intro a b l5
      have h := ih (i + 1) (a, b) l5 (by omega)
      rw [nI_succ] at h
      exact h
    have hs := fun (Q : Option Value → gc_M → Prop) => gF_isSo (w := w) (d := d) (Q := Q) hf hy ho hlt
    rw [E_X1_sum_8]
    rw [gF_sts]
    unfold gF_st
    by_cases h3 : s.1 (f + 1) i = 3
    · simp (decide := true) only [E_X1_sum_0, E_X1_sum_2, E_X1_sum_3, E_X1_sum_4, E_X1_sum_5, E_X1_sum_6, E_X1_sum_10, E_X1_sum_11, E_X1_sum_14, E_X1_sum_17, E_X1_sum_18, E_X1_sum_19, E_X1_sum_20, E_X1_sum_22, E_X1_sum_23, E_X1_sum_26, E_X1_sum_28, E_X1_sum_29, E_X1_sum_64, E_X1_sum_65, E_X1_sum_66, E_X1_sum_67, E_X1_sum_68, E_X1_sum_71, E_X1_sum_72, E_X1_sum_73, E_X1_sum_74, E_X1_sum_76, E_X1_sum_78, E_X1_sum_79, E_X1_sum_80, E_X1_sum_81, E_X1_sum_84, E_X1_sum_85, E_X1_sum_86, E_X1_sum_87, E_X1_sum_89, E_X1_sum_90, E_X1_sum_91, E_X1_sum_94, E_X1_sum_95, E_X1_sum_97, E_X1_sum_98, E_X1_sum_101, E_X1_sum_103, E_X1_sum_104, E_X1_sum_105, E_X1_sum_106, E_X1_sum_107, E_X1_sum_108, E_X1_sum_109, E_X1_sum_112, E_X1_sum_113, E_X1_sum_115, E_X1_sum_116, E_X1_sum_119, E_X1_sum_121, E_X1_sum_122, E_X1_sum_123, E_X1_sum_124, E_X1_sum_125, E_X1_sum_126, E_X1_sum_127, E_X1_sum_130, E_X1_sum_131, E_X1_sum_132, E_X1_sum_133, E_X1_sum_134, E_X1_sum_136, E_X1_sum_137, E_X1_sum_140, E_X1_sum_143, E_X1_sum_144, E_X1_sum_147, E_X1_sum_148, E_X1_sum_149, E_X1_sum_150, E_X1_sum_153, E_X1_sum_156, E_X1_sum_157, gF_gok hf, Fg_2 hf, Fg_5 hf, ho.1, hge, if_false, if_true, Nat.reduceLT, Fa_1 hf, Fv_1 hf, hin, hc, h3, gnk_i, gnk_r, gi_1]
      exact hi _ _ _
    by_cases h4 : s.1 (f + 1) i = 4
    · simp (decide := true) only [E_X1_sum_0, E_X1_sum_2, E_X1_sum_3, E_X1_sum_4, E_X1_sum_5, E_X1_sum_6, E_X1_sum_10, E_X1_sum_11, E_X1_sum_14, E_X1_sum_17, E_X1_sum_18, E_X1_sum_19, E_X1_sum_20, E_X1_sum_22, E_X1_sum_23, E_X1_sum_26, E_X1_sum_28, E_X1_sum_29, E_X1_sum_64, E_X1_sum_65, E_X1_sum_66, E_X1_sum_67, E_X1_sum_68, E_X1_sum_71, E_X1_sum_72, E_X1_sum_73, E_X1_sum_74, E_X1_sum_76, E_X1_sum_78, E_X1_sum_79, E_X1_sum_80, E_X1_sum_81, E_X1_sum_84, E_X1_sum_85, E_X1_sum_86, E_X1_sum_87, E_X1_sum_89, E_X1_sum_90, E_X1_sum_91, E_X1_sum_94, E_X1_sum_95, E_X1_sum_97, E_X1_sum_98, E_X1_sum_101, E_X1_sum_103, E_X1_sum_104, E_X1_sum_105, E_X1_sum_106, E_X1_sum_107, E_X1_sum_108, E_X1_sum_109, E_X1_sum_112, E_X1_sum_113, E_X1_sum_115, E_X1_sum_116, E_X1_sum_119, E_X1_sum_121, E_X1_sum_122, E_X1_sum_123, E_X1_sum_124, E_X1_sum_125, E_X1_sum_126, E_X1_sum_127, E_X1_sum_130, E_X1_sum_131, E_X1_sum_132, E_X1_sum_133, E_X1_sum_134, E_X1_sum_136, E_X1_sum_137, E_X1_sum_140, E_X1_sum_143, E_X1_sum_144, E_X1_sum_147, E_X1_sum_148, E_X1_sum_149, E_X1_sum_150, E_X1_sum_153, E_X1_sum_156, E_X1_sum_157, gF_gok hf, Fg_2 hf, Fg_5 hf, ho.1, hge, if_false, if_true, Nat.reduceLT, Fa_1 hf, Fv_1 hf, hin, hc, h4, gnk_i, gnk_r, gi_1]
      exact hi _ _ _
    by_cases h5 : s.1 (f + 1) i = 5
    · simp (decide := true) only [E_X1_sum_0, E_X1_sum_2, E_X1_sum_3, E_X1_sum_4, E_X1_sum_5, E_X1_sum_6, E_X1_sum_10, E_X1_sum_11, E_X1_sum_14, E_X1_sum_17, E_X1_sum_18, E_X1_sum_19, E_X1_sum_20, E_X1_sum_22, E_X1_sum_23, E_X1_sum_26, E_X1_sum_28, E_X1_sum_29, E_X1_sum_64, E_X1_sum_65, E_X1_sum_66, E_X1_sum_67, E_X1_sum_68, E_X1_sum_71, E_X1_sum_72, E_X1_sum_73, E_X1_sum_74, E_X1_sum_76, E_X1_sum_78, E_X1_sum_79, E_X1_sum_80, E_X1_sum_81, E_X1_sum_84, E_X1_sum_85, E_X1_sum_86, E_X1_sum_87, E_X1_sum_89, E_X1_sum_90, E_X1_sum_91, E_X1_sum_94, E_X1_sum_95, E_X1_sum_97, E_X1_sum_98, E_X1_sum_101, E_X1_sum_103, E_X1_sum_104, E_X1_sum_105, E_X1_sum_106, E_X1_sum_107, E_X1_sum_108, E_X1_sum_109, E_X1_sum_112, E_X1_sum_113, E_X1_sum_115, E_X1_sum_116, E_X1_sum_119, E_X1_sum_121, E_X1_sum_122, E_X1_sum_123, E_X1_sum_124, E_X1_sum_125, E_X1_sum_126, E_X1_sum_127, E_X1_sum_130, E_X1_sum_131, E_X1_sum_132, E_X1_sum_133, E_X1_sum_134, E_X1_sum_136, E_X1_sum_137, E_X1_sum_140, E_X1_sum_143, E_X1_sum_144, E_X1_sum_147, E_X1_sum_148, E_X1_sum_149, E_X1_sum_150, E_X1_sum_153, E_X1_sum_156, E_X1_sum_157, gF_gok hf, Fg_2 hf, Fg_5 hf, ho.1, hge, if_false, if_true, Nat.reduceLT, Fa_1 hf, Fv_1 hf, hin, hc, h5, gnk_i, gnk_r, gi_1]
      exact hi _ _ _
    by_cases h6 : s.1 (f + 1) i = 6
    · simp (decide := true) only [E_X1_sum_0, E_X1_sum_2, E_X1_sum_3, E_X1_sum_4, E_X1_sum_5, E_X1_sum_6, E_X1_sum_10, E_X1_sum_11, E_X1_sum_14, E_X1_sum_17, E_X1_sum_18, E_X1_sum_19, E_X1_sum_20, E_X1_sum_22, E_X1_sum_23, E_X1_sum_26, E_X1_sum_28, E_X1_sum_29, E_X1_sum_64, E_X1_sum_65, E_X1_sum_66, E_X1_sum_67, E_X1_sum_68, E_X1_sum_71, E_X1_sum_72, E_X1_sum_73, E_X1_sum_74, E_X1_sum_76, E_X1_sum_78, E_X1_sum_79, E_X1_sum_80, E_X1_sum_81, E_X1_sum_84, E_X1_sum_85, E_X1_sum_86, E_X1_sum_87, E_X1_sum_89, E_X1_sum_90, E_X1_sum_91, E_X1_sum_94, E_X1_sum_95, E_X1_sum_97, E_X1_sum_98, E_X1_sum_101, E_X1_sum_103, E_X1_sum_104, E_X1_sum_105, E_X1_sum_106, E_X1_sum_107, E_X1_sum_108, E_X1_sum_109, E_X1_sum_112, E_X1_sum_113, E_X1_sum_115, E_X1_sum_116, E_X1_sum_119, E_X1_sum_121, E_X1_sum_122, E_X1_sum_123, E_X1_sum_124, E_X1_sum_125, E_X1_sum_126, E_X1_sum_127, E_X1_sum_130, E_X1_sum_131, E_X1_sum_132, E_X1_sum_133, E_X1_sum_134, E_X1_sum_136, E_X1_sum_137, E_X1_sum_140, E_X1_sum_143, E_X1_sum_144, E_X1_sum_147, E_X1_sum_148, E_X1_sum_149, E_X1_sum_150, E_X1_sum_153, E_X1_sum_156, E_X1_sum_157, gF_gok hf, Fg_2 hf, Fg_4 hf, Fg_5 hf, ho.1, hge, if_false, if_true, Nat.reduceLT, Fa_1 hf, Fv_1 hf, Fa_3 hf, Fv_3 hf, hin, hc, h6, gnk_i, gnk_r, gi_1]
      exact hi _ _ _
    by_cases h7 : s.1 (f + 1) i = 7
    · simp (decide := true) only [E_X1_sum_0, E_X1_sum_2, E_X1_sum_3, E_X1_sum_4, E_X1_sum_5, E_X1_sum_6, E_X1_sum_10, E_X1_sum_11, E_X1_sum_14, E_X1_sum_17, E_X1_sum_18, E_X1_sum_19, E_X1_sum_20, E_X1_sum_22, E_X1_sum_23, E_X1_sum_26, E_X1_sum_28, E_X1_sum_29, E_X1_sum_64, E_X1_sum_65, E_X1_sum_66, E_X1_sum_67, E_X1_sum_68, E_X1_sum_71, E_X1_sum_72, E_X1_sum_73, E_X1_sum_74, E_X1_sum_76, E_X1_sum_78, E_X1_sum_79, E_X1_sum_80, E_X1_sum_81, E_X1_sum_84, E_X1_sum_85, E_X1_sum_86, E_X1_sum_87, E_X1_sum_89, E_X1_sum_90, E_X1_sum_91, E_X1_sum_94, E_X1_sum_95, E_X1_sum_97, E_X1_sum_98, E_X1_sum_101, E_X1_sum_103, E_X1_sum_104, E_X1_sum_105, E_X1_sum_106, E_X1_sum_107, E_X1_sum_108, E_X1_sum_109, E_X1_sum_112, E_X1_sum_113, E_X1_sum_115, E_X1_sum_116, E_X1_sum_119, E_X1_sum_121, E_X1_sum_122, E_X1_sum_123, E_X1_sum_124, E_X1_sum_125, E_X1_sum_126, E_X1_sum_127, E_X1_sum_130, E_X1_sum_131, E_X1_sum_132, E_X1_sum_133, E_X1_sum_134, E_X1_sum_136, E_X1_sum_137, E_X1_sum_140, E_X1_sum_143, E_X1_sum_144, E_X1_sum_147, E_X1_sum_148, E_X1_sum_149, E_X1_sum_150, E_X1_sum_153, E_X1_sum_156, E_X1_sum_157, gF_gok hf, Fg_2 hf, Fg_4 hf, Fg_5 hf, ho.1, hge, if_false, if_true, Nat.reduceLT, Fa_1 hf, Fv_1 hf, Fa_3 hf, Fv_3 hf, hin, hc, h7, gnk_i, gnk_r, gi_1]
      exact hi _ _ _
    · simp (decide := true) only [E_X1_sum_0, E_X1_sum_2, E_X1_sum_3, E_X1_sum_4, E_X1_sum_5, E_X1_sum_6, E_X1_sum_10, E_X1_sum_11, E_X1_sum_14, E_X1_sum_17, E_X1_sum_18, E_X1_sum_19, E_X1_sum_20, E_X1_sum_22, E_X1_sum_23, E_X1_sum_26, E_X1_sum_28, E_X1_sum_29, E_X1_sum_64, E_X1_sum_65, E_X1_sum_66, E_X1_sum_67, E_X1_sum_68, E_X1_sum_71, E_X1_sum_72, E_X1_sum_73, E_X1_sum_74, E_X1_sum_76, E_X1_sum_78, E_X1_sum_79, E_X1_sum_80, E_X1_sum_81, E_X1_sum_84, E_X1_sum_85, E_X1_sum_86, E_X1_sum_87, E_X1_sum_89, E_X1_sum_90, E_X1_sum_91, E_X1_sum_94, E_X1_sum_95, E_X1_sum_97, E_X1_sum_98, E_X1_sum_101, E_X1_sum_103, E_X1_sum_104, E_X1_sum_105, E_X1_sum_106, E_X1_sum_107, E_X1_sum_108, E_X1_sum_109, E_X1_sum_112, E_X1_sum_113, E_X1_sum_115, E_X1_sum_116, E_X1_sum_119, E_X1_sum_121, E_X1_sum_122, E_X1_sum_123, E_X1_sum_124, E_X1_sum_125, E_X1_sum_126, E_X1_sum_127, E_X1_sum_130, E_X1_sum_131, E_X1_sum_132, E_X1_sum_133, E_X1_sum_134, E_X1_sum_136, E_X1_sum_137, E_X1_sum_140, E_X1_sum_143, E_X1_sum_144, E_X1_sum_147, E_X1_sum_148, E_X1_sum_149, E_X1_sum_150, E_X1_sum_153, E_X1_sum_156, E_X1_sum_157, gF_gok hf, Fg_2 hf, Fg_5 hf, ho.1, hge, if_false, if_true, Nat.reduceLT, Fa_1 hf, Fv_1 hf, hin, hc, h3, h4, h5, h6, h7, gnk_i, gF_cl hf, hs, List.map_cons, List.map_nil, List.sum_cons, List.sum_nil, gcat_i, gcat_r, Nat.reduceAdd, Nat.reduceLeDiff, Option.toList, List.cons_append, List.nil_append]
      by_cases hb : gF_so s f (s.1 (y + 17)) i = true
      · simp (decide := true) only [hb, gb_i, if_true, if_false, E_X1_sum_140, E_X1_sum_143, E_X1_sum_144, E_X1_sum_147, E_X1_sum_148, E_X1_sum_149, E_X1_sum_150, E_X1_sum_153, gnk_i, gnk_r, gi_1]
        exact hi _ _ _
      · simp (decide := true) only [hb, gb_i, if_true, if_false, E_X1_sum_140, E_X1_sum_143, E_X1_sum_144, E_X1_sum_147, E_X1_sum_148, E_X1_sum_149, E_X1_sum_150, E_X1_sum_153, gnk_i, gnk_r, gi_1]
        exact hi _ _ _
theorem gF_sumX {w : Nat × (Nat → Int32)} {d f y m : Nat} {s : gm_S} {Q : Option Value → gc_M → Prop} (hf : gF_is f) (hy : gy_is y) (ho : gF_ok s f m) : gc_X w (d + 1) 9 0 [some (.ref f), some (.ref (y + 17)), none, none, none, none] [] (gm_m s) Q = Q (some (.int (gF_sum s f m (s.1 (y + 17))))) (gm_m s) := by
  have h := gF_sum_loop (w := w) (d := d) (Q := Q) hf hy ho m 0 (30, 0) none (Nat.zero_add m)
  rw [nI_0] at h
  simp only [E_X1_sum_0, E_X1_sum_2, E_X1_sum_3, E_X1_sum_4, E_X1_sum_5, E_X1_sum_6, gnk_i, gnk_r, gnk_n]
  exact h
