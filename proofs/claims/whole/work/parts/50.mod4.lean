/-! the reference's sum, given what its clauses hold -/
def mFr (s s' : gm_S) : Prop := s'.2 = s.2 ∧ ∀ b j, b ≠ 157 → s'.1 b j = s.1 b j
theorem mFr_refl {s : gm_S} : mFr s s := ⟨rfl, fun _ _ _ => rfl⟩
theorem mFr_trans {s s' s2 : gm_S} (h : mFr s s') (h2 : mFr s' s2) : mFr s s2 := ⟨h2.1.trans h.1, fun b j hb => (h2.2 b j hb).trans (h.2 b j hb)⟩
theorem mThe_fr {s s' : gm_S} {o : Option (Nat × Nat)} (h : mThe s o) (hf : mFr s s') : mThe s' o := by
  cases o with
  | none => exact (hf.2 137 14 (by decide)).trans h
  | some q => exact ⟨(hf.2 137 14 (by decide)).trans h.1, h.2.1, (hf.2 149 _ (by decide)).trans h.2.2.1, h.2.2.2⟩
def mSum (s : gm_S) (hv : Nat → Bool) : Nat → Nat → Int32 → Int32
  | 0, _, v => v
  | n + 1, c, v => mSum s hv n (c + 1) (if 1 < s.1 150 c then v else if hv c then v + (if s.1 150 c = 0 then s.1 151 c else -s.1 151 c) else v)
section
variable {w : Nat × (Nat → Int32)} {d : Nat} {s0 : gm_S} {hv : Nat → Bool} {Q : Option Value → gc_M → Prop} {x z : Int32} {o : Option (Nat × Nat)}
theorem m_sum_loop (ho : mThe s0 o) (H : ∀ (c : Nat) (s1 : gm_S) (Q : Option Value → gc_M → Prop), mBe o ≤ c → c < mEn o → mFr s0 s1 → ¬ 1 < s0.1 150 c → (∀ s2, mFr s0 s2 → Q (some (.int (gb_i (hv c)))) (gm_m s2)) → gc_X w (d + 1) 145 0 [some (.ref 137), some (.int (nI c)), some (.int x), some (.int z), none, none, none, none, none] [] (gm_m s1) Q) : ∀ (n c : Nat) (v : Int32) (s : gm_S), mBe o ≤ c → c + n = mEn o → mFr s0 s → (∀ s', mFr s0 s' → Q (some (.int (mSum s0 hv n c v))) (gm_m s')) → gc_X w (d + 2) 146 9 [some (.ref 137), some (.int x), some (.int z), some (.int v), some (.int (nI c))] [] (gm_m s) Q := by
  intro n
  have he := (mEn_le ho).2
  induction n with
  | zero =>
    intro c v s hc0 hc hf hq
    have hb := fun (Q : Option Value → gc_M → Prop) => m_behind (w := w) (d := d + 1) (Q := Q) (mThe_fr ho hf)
    have e : mEn o = c := by omega
    rw [e] at hb
    rw [E_X12_sum_9]
    simp only [E_X12_sum_0, E_X12_sum_2, E_X12_sum_3, E_X12_sum_4, E_X12_sum_7, E_X12_sum_11, E_X12_sum_12, E_X12_sum_15, E_X12_sum_18, E_X12_sum_19, E_X12_sum_22, E_X12_sum_24, E_X12_sum_25, E_X12_sum_26, E_X12_sum_29, E_X12_sum_30, E_X12_sum_32, E_X12_sum_33, E_X12_sum_34, E_X12_sum_37, E_X12_sum_40, E_X12_sum_43, E_X12_sum_44, E_X12_sum_45, E_X12_sum_48, E_X12_sum_50, E_X12_sum_51, E_X12_sum_54, E_X12_sum_55, E_X12_sum_58, E_X12_sum_60, E_X12_sum_61, E_X12_sum_64, E_X12_sum_65, E_X12_sum_68, E_X12_sum_70, E_X12_sum_71, E_X12_sum_72, E_X12_sum_73, E_X12_sum_74, E_X12_sum_77, E_X12_sum_80, E_X12_sum_81, rc_137, hb, nI_le (Nat.le_refl c) (by omega : c < 2 ^ 31), if_true, List.map_nil, List.map_cons, List.sum_cons, List.sum_nil, gcat_i, Nat.reduceAdd, Nat.reduceLeDiff, Nat.zero_le, Option.toList, List.cons_append, List.nil_append]
    exact hq s hf
  | succ n ih =>
    intro c v s hc0 hc hf hq
    have hb := fun (Q : Option Value → gc_M → Prop) => m_behind (w := w) (d := d + 1) (Q := Q) (mThe_fr ho hf)
    have i1 : vp_in (nI c) 60 := vp_in_nI (by omega) (by omega)
    have i2 : (nI c).toNatClampNeg = c := nI_clamp (by omega)
    have hge : ¬ nI (mEn o) ≤ nI c := nI_ge (by omega) (by omega)
    have hi := ih (c + 1)
    rw [nI_succ] at hi
    have w0 := hf.2 150 c (by decide)
    rw [mSum] at hq
    rw [E_X12_sum_9]
    by_cases h1 : 1 < s0.1 150 c
    · rw [if_pos h1] at hq
      simp only [E_X12_sum_11, E_X12_sum_12, E_X12_sum_15, E_X12_sum_18, E_X12_sum_19, E_X12_sum_22, E_X12_sum_24, E_X12_sum_25, E_X12_sum_26, E_X12_sum_74, E_X12_sum_77, rk_137, rc_137, rg_137_20, hb, hge, h1, w0, ra_150, rv_150, i1, i2, if_true, if_false, Nat.reduceLT, List.map_nil, List.map_cons, List.sum_cons, List.sum_nil, gcat_i, Nat.reduceAdd, Nat.reduceLeDiff, Nat.zero_le, Option.toList, List.cons_append, List.nil_append, gnk_i, gi_1]
      exact hi _ _ (by omega) (by omega) hf hq
    · rw [if_neg h1] at hq
      simp only [E_X12_sum_11, E_X12_sum_12, E_X12_sum_15, E_X12_sum_18, E_X12_sum_19, E_X12_sum_22, E_X12_sum_24, E_X12_sum_25, E_X12_sum_26, E_X12_sum_29, E_X12_sum_30, E_X12_sum_32, E_X12_sum_33, E_X12_sum_34, rk_137, rc_137, rg_137_20, hb, hge, h1, w0, ra_150, rv_150, i1, i2, if_true, if_false, Nat.reduceLT, List.map_nil, List.map_cons, List.sum_cons, List.sum_nil, gcat_i, Nat.reduceAdd, Nat.reduceLeDiff, Nat.zero_le, Option.toList, List.cons_append, List.nil_append, gnk_i, gi_1]
      refine H c s _ hc0 (by omega) hf h1 (fun s2 hf2 => ?_)
      have w2 := hf2.2 150 c (by decide)
      have n2 := hf2.2 151 c (by decide)
      by_cases hh : hv c = true
      · rw [if_pos hh] at hq
        by_cases h0 : s0.1 150 c = 0
        · rw [if_pos h0] at hq
          simp (decide := true) only [E_X12_sum_37, E_X12_sum_43, E_X12_sum_44, E_X12_sum_45, E_X12_sum_48, E_X12_sum_50, E_X12_sum_51, E_X12_sum_54, E_X12_sum_55, E_X12_sum_58, E_X12_sum_60, E_X12_sum_61, E_X12_sum_72, E_X12_sum_73, E_X12_sum_74, E_X12_sum_77, rk_137, rg_137_20, rg_137_21, hh, gb_i, h0, w2, n2, ra_150, rv_150, ra_151, rv_151, i1, i2, if_true, if_false, Nat.reduceLT, Option.toList, List.cons_append, List.nil_append, gnk_i, gi_1]
          exact hi _ _ (by omega) (by omega) hf2 hq
        · rw [if_neg h0] at hq
          simp (decide := true) only [E_X12_sum_37, E_X12_sum_43, E_X12_sum_44, E_X12_sum_45, E_X12_sum_48, E_X12_sum_50, E_X12_sum_51, E_X12_sum_64, E_X12_sum_65, E_X12_sum_68, E_X12_sum_70, E_X12_sum_71, E_X12_sum_72, E_X12_sum_73, E_X12_sum_74, E_X12_sum_77, rk_137, rg_137_20, rg_137_21, hh, gb_i, h0, w2, n2, ra_150, rv_150, ra_151, rv_151, i1, i2, if_true, if_false, Nat.reduceLT, Option.toList, List.cons_append, List.nil_append, gnk_i, gi_1]
          exact hi _ _ (by omega) (by omega) hf2 hq
      · rw [if_neg hh] at hq
        simp (decide := true) only [E_X12_sum_37, E_X12_sum_40, E_X12_sum_74, E_X12_sum_77, hh, gb_i, if_true, if_false, Option.toList, List.cons_append, List.nil_append, gnk_i, gi_1]
        exact hi _ _ (by omega) (by omega) hf2 hq
end
