/-! the reference: what a clause holds -/
theorem gi_m1 : Int32.ofInt (-1) = -1 := rfl
theorem mR_fr {s s' : gm_S} {p : gA} (h : mR s p) (hf : mFr s s') : mR s' p := by
  obtain ⟨h1, h2, h3, h4, h5, h6⟩ := h
  have e := hf.2
  refine ⟨(e 137 0 (by decide)).trans h1, (e 137 1 (by decide)).trans h2, (e 137 2 (by decide)).trans h3, fun k hk => (e 138 k (by decide)).trans (h4 k hk), fun c hc => ⟨(e 139 c (by decide)).trans (h5 c hc).1, (e 140 c (by decide)).trans (h5 c hc).2.1, fun k hk => (e 142 _ (by decide)).trans ((h5 c hc).2.2 k hk)⟩, fun t ht => ?_⟩
  obtain ⟨a, b, c, d, g⟩ := h6 t ht
  exact ⟨(e 143 t (by decide)).trans a, (e 144 t (by decide)).trans b, (e 145 t (by decide)).trans c, (e 146 t (by decide)).trans d, (e 147 t (by decide)).trans g⟩
def fT_code (k : fT) : Int32 := if k.1 = 3 then -33 else if k.1 = 4 then -38 else if k.1 = 5 then -124 else nI (1000 * k.2.1 + 100 * k.1 + k.2.2)
/-- clause c of the reference has these steps -/
def mTk (s : gm_S) (c : Nat) (ts : List fT) : Prop := ∃ a, s.1 152 c = nI a ∧ s.1 153 c = nI (a + ts.length) ∧ a + ts.length ≤ 600 ∧ ∀ i k, ts[i]? = some k → s.1 154 (a + i) = fT_code k
/-- the pile -/
def mPi (s : gm_S) : List Bool → Prop
  | [] => True
  | b :: r => s.1 157 r.length = gb_i b ∧ mPi s r
theorem mPi_si {s : gm_S} {j : Nat} {x : Int32} : ∀ {st : List Bool}, st.length ≤ j → mPi s st → mPi (gm_si s 157 j x) st
  | [], _, _ => trivial
  | b :: r, h, hp => by
    simp only [List.length_cons] at h
    refine ⟨?_, mPi_si (by omega) hp.2⟩
    rw [gsi_1, if_neg (fun e => by omega)]
    exact hp.1
theorem mPi_new {s : gm_S} {b : Bool} {r : List Bool} (h : mPi s r) : mPi (gm_si s 157 r.length (gb_i b)) (b :: r) := by
  refine ⟨?_, mPi_si (Nat.le_refl _) h⟩
  rw [gsi_1, if_pos ⟨rfl, rfl⟩]
theorem mFr_si {s s' : gm_S} {j : Nat} {x : Int32} (h : mFr s s') : mFr s (gm_si s' 157 j x) := by
  refine ⟨by rw [gsi_2]; exact h.1, fun b j hb => ?_⟩
  rw [gsi_1, if_neg (fun e => hb e.1)]
  exact h.2 b j hb
theorem gb_nar (b : Bool) : vp_nar .boolean (gb_i b) = gb_i b := by
  cases b
  · exact gb_n0
  · exact gb_n1
theorem fT_st3 {fx : Nat → Int32} {k : fT} {b : Bool} {r : List Bool} (h : k.1 = 3) : fT_st fx k (b :: r) = (!b) :: r := by
  unfold fT_st
  rw [if_pos h]
theorem fT_st4 {fx : Nat → Int32} {k : fT} {a b : Bool} {r : List Bool} (h : k.1 = 4) : fT_st fx k (a :: b :: r) = (b && a) :: r := by
  unfold fT_st
  rw [if_neg (by omega), if_pos h]
theorem fT_st5 {fx : Nat → Int32} {k : fT} {a b : Bool} {r : List Bool} (h : k.1 = 5) : fT_st fx k (a :: b :: r) = (b || a) :: r := by
  unfold fT_st
  rw [if_neg (by omega), if_neg (by omega), if_pos h]
theorem fT_st0 {fx : Nat → Int32} {k : fT} {st : List Bool} (h : k.1 < 3) : fT_st fx k st = fT_so fx k :: st := by
  unfold fT_st
  rw [if_neg (by omega), if_neg (by omega), if_neg (by omega)]
section
variable {w : Nat × (Nat → Int32)} {d cr t a cl : Nat} {s0 : gm_S} {p : gA} {Q : Option Value → gc_M → Prop} {ts : List fT} {v : Bool}
theorem m_holds_loop (hR : mR s0 p) (hk : gA_ok p) (hc : cr < p.1.2.1) (ht : t < p.1.2.2) (hcl : cl < 60) (h1 : s0.1 153 cl = nI (a + ts.length)) (h6 : a + ts.length ≤ 600) (h2 : ∀ i k, ts[i]? = some k → s0.1 154 (a + i) = fT_code k) (hq : ∀ s', mFr s0 s' → Q (some (.int (gb_i v))) (gm_m s')) : ∀ (n i : Nat) (st : List Bool) (s : gm_S) (l6 l7 l8 : Option Value), i + n = ts.length → mFr s0 s → mPi s st → st.length ≤ 12 → fOK (gA_fx p cr t) (ts.drop i) st → fT_run (gA_fx p cr t) (ts.drop i) st = [v] → gc_X w (d + 1) 145 11 [some (.ref 137), some (.int (nI cl)), some (.int (nI cr)), some (.int (nI t)), some (.int (nI st.length)), some (.int (nI (a + i))), l6, l7, l8] [] (gm_m s) Q := by
  have i1 : vp_in (nI cl) 60 := vp_in_nI (by omega) (by omega)
  have i2 : (nI cl).toNatClampNeg = cl := nI_clamp (by omega)
  have f0 : vp_in 0 100 := by unfold vp_in; decide
  have e0 : (0 : Int32).toNatClampNeg = 0 := rfl
  intro n
  induction n with
  | zero =>
    intro i st s l6 l7 l8 hi hf hp hl hok hrun
    have w1 := hf.2 153 cl (by decide)
    rw [h1] at w1
    rw [List.drop_of_length_le (by omega)] at hrun
    have est : st = [v] := hrun
    subst est
    have hp0 : s.1 157 0 = gb_i v := hp.1
    have e : i = ts.length := by omega
    subst e
    rw [E_X12_holds_11]
    simp only [E_X12_holds_0, E_X12_holds_1, E_X12_holds_3, E_X12_holds_4, E_X12_holds_7, E_X12_holds_8, E_X12_holds_9, E_X12_holds_13, E_X12_holds_14, E_X12_holds_17, E_X12_holds_18, E_X12_holds_19, E_X12_holds_22, E_X12_holds_23, E_X12_holds_26, E_X12_holds_28, E_X12_holds_29, E_X12_holds_31, E_X12_holds_33, E_X12_holds_35, E_X12_holds_38, E_X12_holds_39, E_X12_holds_42, E_X12_holds_44, E_X12_holds_45, E_X12_holds_46, E_X12_holds_47, E_X12_holds_50, E_X12_holds_52, E_X12_holds_53, E_X12_holds_54, E_X12_holds_55, E_X12_holds_58, E_X12_holds_59, E_X12_holds_62, E_X12_holds_63, E_X12_holds_64, E_X12_holds_67, E_X12_holds_69, E_X12_holds_72, E_X12_holds_75, E_X12_holds_76, E_X12_holds_79, E_X12_holds_81, E_X12_holds_82, E_X12_holds_83, E_X12_holds_85, E_X12_holds_87, E_X12_holds_90, E_X12_holds_91, E_X12_holds_94, E_X12_holds_96, E_X12_holds_97, E_X12_holds_98, E_X12_holds_99, E_X12_holds_102, E_X12_holds_103, E_X12_holds_106, E_X12_holds_108, E_X12_holds_109, E_X12_holds_112, E_X12_holds_113, E_X12_holds_116, E_X12_holds_117, E_X12_holds_120, E_X12_holds_121, E_X12_holds_124, E_X12_holds_126, E_X12_holds_127, E_X12_holds_128, E_X12_holds_129, E_X12_holds_132, E_X12_holds_133, E_X12_holds_136, E_X12_holds_138, E_X12_holds_139, E_X12_holds_142, E_X12_holds_143, E_X12_holds_146, E_X12_holds_147, E_X12_holds_148, E_X12_holds_151, E_X12_holds_152, E_X12_holds_154, E_X12_holds_157, E_X12_holds_158, E_X12_holds_159, E_X12_holds_160, E_X12_holds_163, E_X12_holds_165, E_X12_holds_167, E_X12_holds_169, E_X12_holds_170, E_X12_holds_172, E_X12_holds_173, E_X12_holds_175, E_X12_holds_176, E_X12_holds_179, E_X12_holds_181, E_X12_holds_183, E_X12_holds_186, E_X12_holds_188, E_X12_holds_190, E_X12_holds_192, E_X12_holds_193, E_X12_holds_196, E_X12_holds_197, E_X12_holds_200, E_X12_holds_201, E_X12_holds_204, E_X12_holds_206, E_X12_holds_207, E_X12_holds_210, E_X12_holds_212, E_X12_holds_214, E_X12_holds_216, E_X12_holds_217, E_X12_holds_220, E_X12_holds_221, E_X12_holds_224, E_X12_holds_225, E_X12_holds_228, E_X12_holds_230, E_X12_holds_232, E_X12_holds_234, E_X12_holds_235, E_X12_holds_238, E_X12_holds_239, E_X12_holds_242, E_X12_holds_243, E_X12_holds_244, E_X12_holds_247, E_X12_holds_250, E_X12_holds_253, E_X12_holds_254, E_X12_holds_257, E_X12_holds_258, E_X12_holds_259, rk_137, rg_137_23, rg_137_30, ra_153, rv_153, ra_157, rv_157, i1, i2, w1, f0, e0, hp0, gb_nar, nI_le (Nat.le_refl (a + ts.length)) (by omega : a + ts.length < 2 ^ 31), gnk_i, gnk_r, gnk_n, gi_1, Nat.reduceLT, if_true, if_false]
    exact hq s hf
  | succ n ih =>
    intro i st s l6 l7 l8 hi hf hp hl hok hrun
    have hlt : i < ts.length := by omega
    have w1 := hf.2 153 cl (by decide)
    rw [h1] at w1
    have hg : ts[i]? = some ts[i] := List.getElem?_eq_getElem hlt
    have w2 := hf.2 154 (a + i) (by decide)
    rw [h2 i _ hg] at w2
    rw [List.drop_eq_getElem_cons hlt] at hok hrun
    generalize ts[i] = k at hok hrun w2
    obtain ⟨hA, hok2⟩ := hok
    have hrun2 : fT_run (gA_fx p cr t) (ts.drop (i + 1)) (fT_st (gA_fx p cr t) k st) = [v] := hrun
    have j1 : vp_in (nI (a + i)) 600 := vp_in_nI (by omega) (by omega)
    have j2 : (nI (a + i)).toNatClampNeg = a + i := nI_clamp (by omega)
    have hge : ¬ nI (a + ts.length) ≤ nI (a + i) := nI_ge (by omega) (by omega)
    have hi2 := ih (i + 1)
    rw [← Nat.add_assoc, nI_succ] at hi2
    obtain ⟨hA0, hA1, hA2, hA3⟩ := hA
    rw [E_X12_holds_11]
    by_cases k3 : k.1 = 3
    · have hlen := hA1 k3
      match st, hlen with
      | b :: r, _ =>
        have hp0 : s.1 157 r.length = gb_i b := hp.1
        rw [fT_st3 k3] at hok2 hrun2
        have ec : fT_code k = -33 := by unfold fT_code; rw [if_pos k3]
        rw [ec] at w2
        simp only [List.length_cons] at hl
        have m1 : nI (r.length + 1) - 1 = nI r.length := nI_pred _
        have p1 : vp_in (nI r.length) 100 := vp_in_nI (by omega) (by omega)
        have p2 : (nI r.length).toNatClampNeg = r.length := nI_clamp (by omega)
        have hgo := hi2 ((!b) :: r) (gm_si s 157 r.length (gb_i (!b))) (some (.int (-33))) l7 l8 (by omega) (mFr_si hf) (mPi_new hp.2) (by simp only [List.length_cons]; omega) hok2 hrun2
        cases b <;>
        · simp (decide := true) only [E_X12_holds_0, E_X12_holds_1, E_X12_holds_3, E_X12_holds_4, E_X12_holds_7, E_X12_holds_8, E_X12_holds_9, E_X12_holds_13, E_X12_holds_14, E_X12_holds_17, E_X12_holds_18, E_X12_holds_19, E_X12_holds_22, E_X12_holds_23, E_X12_holds_26, E_X12_holds_28, E_X12_holds_29, E_X12_holds_31, E_X12_holds_33, E_X12_holds_35, E_X12_holds_38, E_X12_holds_39, E_X12_holds_42, E_X12_holds_44, E_X12_holds_45, E_X12_holds_46, E_X12_holds_47, E_X12_holds_50, E_X12_holds_52, E_X12_holds_53, E_X12_holds_54, E_X12_holds_55, E_X12_holds_58, E_X12_holds_59, E_X12_holds_62, E_X12_holds_63, E_X12_holds_64, E_X12_holds_67, E_X12_holds_69, E_X12_holds_72, E_X12_holds_75, E_X12_holds_76, E_X12_holds_79, E_X12_holds_81, E_X12_holds_82, E_X12_holds_83, E_X12_holds_85, E_X12_holds_87, E_X12_holds_90, E_X12_holds_91, E_X12_holds_94, E_X12_holds_96, E_X12_holds_97, E_X12_holds_98, E_X12_holds_99, E_X12_holds_102, E_X12_holds_103, E_X12_holds_106, E_X12_holds_108, E_X12_holds_109, E_X12_holds_112, E_X12_holds_113, E_X12_holds_116, E_X12_holds_117, E_X12_holds_120, E_X12_holds_121, E_X12_holds_124, E_X12_holds_126, E_X12_holds_127, E_X12_holds_128, E_X12_holds_129, E_X12_holds_132, E_X12_holds_133, E_X12_holds_136, E_X12_holds_138, E_X12_holds_139, E_X12_holds_142, E_X12_holds_143, E_X12_holds_146, E_X12_holds_147, E_X12_holds_148, E_X12_holds_151, E_X12_holds_152, E_X12_holds_154, E_X12_holds_157, E_X12_holds_158, E_X12_holds_159, E_X12_holds_160, E_X12_holds_163, E_X12_holds_165, E_X12_holds_167, E_X12_holds_169, E_X12_holds_170, E_X12_holds_172, E_X12_holds_173, E_X12_holds_175, E_X12_holds_176, E_X12_holds_179, E_X12_holds_181, E_X12_holds_183, E_X12_holds_186, E_X12_holds_188, E_X12_holds_190, E_X12_holds_192, E_X12_holds_193, E_X12_holds_196, E_X12_holds_197, E_X12_holds_200, E_X12_holds_201, E_X12_holds_204, E_X12_holds_206, E_X12_holds_207, E_X12_holds_210, E_X12_holds_212, E_X12_holds_214, E_X12_holds_216, E_X12_holds_217, E_X12_holds_220, E_X12_holds_221, E_X12_holds_224, E_X12_holds_225, E_X12_holds_228, E_X12_holds_230, E_X12_holds_232, E_X12_holds_234, E_X12_holds_235, E_X12_holds_238, E_X12_holds_239, E_X12_holds_242, E_X12_holds_243, E_X12_holds_244, E_X12_holds_247, E_X12_holds_250, E_X12_holds_253, E_X12_holds_254, E_X12_holds_257, E_X12_holds_258, E_X12_holds_259, rk_137, rg_137_23, rg_137_24, rg_137_30, ra_153, rv_153, ra_154, rv_154, ra_157, rv_157, rs_157, i1, i2, j1, j2, w1, w2, hge, List.length_cons, m1, p1, p2, hp0, gb_i, gb_n0, gb_n1, gnk_i, gnk_r, gnk_n, gi_1, Nat.reduceLT, if_true, if_false]
          exact hgo
    by_cases k4 : k.1 = 4
    · have hlen := hA2 (Or.inl k4)
      match st, hlen with
      | [x], h => exact absurd h (by simp)
      | x :: y :: r, _ =>
        have hp0 : s.1 157 (r.length + 1) = gb_i x := hp.1
        have hp1 : s.1 157 r.length = gb_i y := hp.2.1
        rw [fT_st4 k4] at hok2 hrun2
        have ec : fT_code k = -38 := by unfold fT_code; rw [if_neg k3, if_pos k4]
        rw [ec] at w2
        simp only [List.length_cons] at hl
        have m0 : nI (r.length + 1 + 1) + -1 = nI (r.length + 1) := pk_m1 _
        have m1 : nI (r.length + 1) - 1 = nI r.length := nI_pred _
        have p1 : vp_in (nI r.length) 100 := vp_in_nI (by omega) (by omega)
        have p2 : (nI r.length).toNatClampNeg = r.length := nI_clamp (by omega)
        have p3 : vp_in (nI (r.length + 1)) 100 := vp_in_nI (by omega) (by omega)
        have p4 : (nI (r.length + 1)).toNatClampNeg = r.length + 1 := nI_clamp (by omega)
        have hgo := hi2 ((y && x) :: r) (gm_si s 157 r.length (gb_i (y && x))) (some (.int (-38))) l7 l8 (by omega) (mFr_si hf) (mPi_new hp.2.2) (by simp only [List.length_cons]; omega) hok2 hrun2
        cases x <;> cases y <;>
        · simp (decide := true) only [E_X12_holds_0, E_X12_holds_1, E_X12_holds_3, E_X12_holds_4, E_X12_holds_7, E_X12_holds_8, E_X12_holds_9, E_X12_holds_13, E_X12_holds_14, E_X12_holds_17, E_X12_holds_18, E_X12_holds_19, E_X12_holds_22, E_X12_holds_23, E_X12_holds_26, E_X12_holds_28, E_X12_holds_29, E_X12_holds_31, E_X12_holds_33, E_X12_holds_35, E_X12_holds_38, E_X12_holds_39, E_X12_holds_42, E_X12_holds_44, E_X12_holds_45, E_X12_holds_46, E_X12_holds_47, E_X12_holds_50, E_X12_holds_52, E_X12_holds_53, E_X12_holds_54, E_X12_holds_55, E_X12_holds_58, E_X12_holds_59, E_X12_holds_62, E_X12_holds_63, E_X12_holds_64, E_X12_holds_67, E_X12_holds_69, E_X12_holds_72, E_X12_holds_75, E_X12_holds_76, E_X12_holds_79, E_X12_holds_81, E_X12_holds_82, E_X12_holds_83, E_X12_holds_85, E_X12_holds_87, E_X12_holds_90, E_X12_holds_91, E_X12_holds_94, E_X12_holds_96, E_X12_holds_97, E_X12_holds_98, E_X12_holds_99, E_X12_holds_102, E_X12_holds_103, E_X12_holds_106, E_X12_holds_108, E_X12_holds_109, E_X12_holds_112, E_X12_holds_113, E_X12_holds_116, E_X12_holds_117, E_X12_holds_120, E_X12_holds_121, E_X12_holds_124, E_X12_holds_126, E_X12_holds_127, E_X12_holds_128, E_X12_holds_129, E_X12_holds_132, E_X12_holds_133, E_X12_holds_136, E_X12_holds_138, E_X12_holds_139, E_X12_holds_142, E_X12_holds_143, E_X12_holds_146, E_X12_holds_147, E_X12_holds_148, E_X12_holds_151, E_X12_holds_152, E_X12_holds_154, E_X12_holds_157, E_X12_holds_158, E_X12_holds_159, E_X12_holds_160, E_X12_holds_163, E_X12_holds_165, E_X12_holds_167, E_X12_holds_169, E_X12_holds_170, E_X12_holds_172, E_X12_holds_173, E_X12_holds_175, E_X12_holds_176, E_X12_holds_179, E_X12_holds_181, E_X12_holds_183, E_X12_holds_186, E_X12_holds_188, E_X12_holds_190, E_X12_holds_192, E_X12_holds_193, E_X12_holds_196, E_X12_holds_197, E_X12_holds_200, E_X12_holds_201, E_X12_holds_204, E_X12_holds_206, E_X12_holds_207, E_X12_holds_210, E_X12_holds_212, E_X12_holds_214, E_X12_holds_216, E_X12_holds_217, E_X12_holds_220, E_X12_holds_221, E_X12_holds_224, E_X12_holds_225, E_X12_holds_228, E_X12_holds_230, E_X12_holds_232, E_X12_holds_234, E_X12_holds_235, E_X12_holds_238, E_X12_holds_239, E_X12_holds_242, E_X12_holds_243, E_X12_holds_244, E_X12_holds_247, E_X12_holds_250, E_X12_holds_253, E_X12_holds_254, E_X12_holds_257, E_X12_holds_258, E_X12_holds_259, rk_137, rg_137_23, rg_137_24, rg_137_30, ra_153, rv_153, ra_154, rv_154, ra_157, rv_157, rs_157, i1, i2, j1, j2, w1, w2, hge, List.length_cons, gi_m1, m0, m1, p1, p2, p3, p4, hp0, hp1, gb_i, gb_n0, gb_n1, gnk_i, gnk_r, gnk_n, gi_1, Nat.reduceLT, if_true, if_false]
          exact hgo
    by_cases k5 : k.1 = 5
    · have hlen := hA2 (Or.inr k5)
      match st, hlen with
      | [x], h => exact absurd h (by simp)
      | x :: y :: r, _ =>
        have hp0 : s.1 157 (r.length + 1) = gb_i x := hp.1
        have hp1 : s.1 157 r.length = gb_i y := hp.2.1
        rw [fT_st5 k5] at hok2 hrun2
        have ec : fT_code k = -124 := by unfold fT_code; rw [if_neg k3, if_neg k4, if_pos k5]
        rw [ec] at w2
        simp only [List.length_cons] at hl
        have m0 : nI (r.length + 1 + 1) + -1 = nI (r.length + 1) := pk_m1 _
        have m1 : nI (r.length + 1) - 1 = nI r.length := nI_pred _
        have p1 : vp_in (nI r.length) 100 := vp_in_nI (by omega) (by omega)
        have p2 : (nI r.length).toNatClampNeg = r.length := nI_clamp (by omega)
        have p3 : vp_in (nI (r.length + 1)) 100 := vp_in_nI (by omega) (by omega)
        have p4 : (nI (r.length + 1)).toNatClampNeg = r.length + 1 := nI_clamp (by omega)
        have hgo := hi2 ((y || x) :: r) (gm_si s 157 r.length (gb_i (y || x))) (some (.int (-124))) l7 l8 (by omega) (mFr_si hf) (mPi_new hp.2.2) (by simp only [List.length_cons]; omega) hok2 hrun2
        cases x <;> cases y <;>
        · simp (decide := true) only [E_X12_holds_0, E_X12_holds_1, E_X12_holds_3, E_X12_holds_4, E_X12_holds_7, E_X12_holds_8, E_X12_holds_9, E_X12_holds_13, E_X12_holds_14, E_X12_holds_17, E_X12_holds_18, E_X12_holds_19, E_X12_holds_22, E_X12_holds_23, E_X12_holds_26, E_X12_holds_28, E_X12_holds_29, E_X12_holds_31, E_X12_holds_33, E_X12_holds_35, E_X12_holds_38, E_X12_holds_39, E_X12_holds_42, E_X12_holds_44, E_X12_holds_45, E_X12_holds_46, E_X12_holds_47, E_X12_holds_50, E_X12_holds_52, E_X12_holds_53, E_X12_holds_54, E_X12_holds_55, E_X12_holds_58, E_X12_holds_59, E_X12_holds_62, E_X12_holds_63, E_X12_holds_64, E_X12_holds_67, E_X12_holds_69, E_X12_holds_72, E_X12_holds_75, E_X12_holds_76, E_X12_holds_79, E_X12_holds_81, E_X12_holds_82, E_X12_holds_83, E_X12_holds_85, E_X12_holds_87, E_X12_holds_90, E_X12_holds_91, E_X12_holds_94, E_X12_holds_96, E_X12_holds_97, E_X12_holds_98, E_X12_holds_99, E_X12_holds_102, E_X12_holds_103, E_X12_holds_106, E_X12_holds_108, E_X12_holds_109, E_X12_holds_112, E_X12_holds_113, E_X12_holds_116, E_X12_holds_117, E_X12_holds_120, E_X12_holds_121, E_X12_holds_124, E_X12_holds_126, E_X12_holds_127, E_X12_holds_128, E_X12_holds_129, E_X12_holds_132, E_X12_holds_133, E_X12_holds_136, E_X12_holds_138, E_X12_holds_139, E_X12_holds_142, E_X12_holds_143, E_X12_holds_146, E_X12_holds_147, E_X12_holds_148, E_X12_holds_151, E_X12_holds_152, E_X12_holds_154, E_X12_holds_157, E_X12_holds_158, E_X12_holds_159, E_X12_holds_160, E_X12_holds_163, E_X12_holds_165, E_X12_holds_167, E_X12_holds_169, E_X12_holds_170, E_X12_holds_172, E_X12_holds_173, E_X12_holds_175, E_X12_holds_176, E_X12_holds_179, E_X12_holds_181, E_X12_holds_183, E_X12_holds_186, E_X12_holds_188, E_X12_holds_190, E_X12_holds_192, E_X12_holds_193, E_X12_holds_196, E_X12_holds_197, E_X12_holds_200, E_X12_holds_201, E_X12_holds_204, E_X12_holds_206, E_X12_holds_207, E_X12_holds_210, E_X12_holds_212, E_X12_holds_214, E_X12_holds_216, E_X12_holds_217, E_X12_holds_220, E_X12_holds_221, E_X12_holds_224, E_X12_holds_225, E_X12_holds_228, E_X12_holds_230, E_X12_holds_232, E_X12_holds_234, E_X12_holds_235, E_X12_holds_238, E_X12_holds_239, E_X12_holds_242, E_X12_holds_243, E_X12_holds_244, E_X12_holds_247, E_X12_holds_250, E_X12_holds_253, E_X12_holds_254, E_X12_holds_257, E_X12_holds_258, E_X12_holds_259, rk_137, rg_137_23, rg_137_24, rg_137_30, ra_153, rv_153, ra_154, rv_154, ra_157, rv_157, rs_157, i1, i2, j1, j2, w1, w2, hge, List.length_cons, gi_m1, m0, m1, p1, p2, p3, p4, hp0, hp1, gb_i, gb_n0, gb_n1, gnk_i, gnk_r, gnk_n, gi_1, Nat.reduceLT, if_true, if_false]
          exact hgo
    have k012 : k.1 < 3 := by omega
    obtain ⟨hA4, hA5, hA6⟩ := hA3 k012
    rw [fT_st0 k012] at hok2 hrun2
    have ec : fT_code k = nI (1000 * k.2.1 + 100 * k.1 + k.2.2) := by unfold fT_code; rw [if_neg k3, if_neg k4, if_neg k5]
    rw [ec] at w2
    obtain ⟨T, hT⟩ : ∃ T, T = 1000 * k.2.1 + 100 * k.1 + k.2.2 := ⟨_, rfl⟩
    rw [← hT] at w2
    have q0 : ¬ nI T = -33 := by
      intro e
      have h := congrArg Int32.toInt e
      rw [nI_toInt (by omega)] at h
      have h2 : ((-33 : Int32)).toInt = -33 := by decide
      rw [h2] at h
      omega
    have q00 : 0 ≤ nI T := nI_pos' (by omega)
    have q1 : nI T / 1000 = nI k.2.1 := by
      rw [show (1000 : Int32) = nI 1000 from rfl, gI_div (by omega) (by omega)]
      congr 1
      omega
    have q2 : nI T / 100 = nI (T / 100) := gI_div (b := 100) (by omega) (by omega)
    have q3 : nI (T / 100) - nI (T / 100) / 10 * 10 = nI k.1 := by
      rw [show (10 : Int32) = nI 10 from rfl, gI_mod (by omega) (by omega)]
      congr 1
      omega
    have q4 : nI T - nI (T / 100) * 100 = nI k.2.2 := by
      rw [← q2, show (100 : Int32) = nI 100 from rfl, gI_mod (by omega) (by omega)]
      congr 1
      omega
    have hfa := fun (Q : Option Value → gc_M → Prop) => m_factOf (w := w) (d := d) (Q := Q) (mR_fr hR hf) hk hc ht hA5
    have n1000 : ¬ (1000 : Int32) = 0 := by decide
    have n100 : ¬ (100 : Int32) = 0 := by decide
    have n10 : ¬ (10 : Int32) = 0 := by decide
    have p1 : vp_in (nI st.length) 100 := vp_in_nI (by omega) (by omega)
    have p2 : (nI st.length).toNatClampNeg = st.length := nI_clamp (by omega)
    have hgo := hi2 (fT_so (gA_fx p cr t) k :: st) (gm_si s 157 st.length (gb_i (fT_so (gA_fx p cr t) k))) (some (.int (nI T))) (some (.int (gA_fx p cr t k.2.1))) (some (.int (nI k.1))) (by omega) (mFr_si hf) (mPi_new hp) (by simp only [List.length_cons]; omega) hok2 hrun2
    simp only [List.length_cons, nI_succ] at hgo
    have c3 : k.1 = 0 ∨ k.1 = 1 ∨ k.1 = 2 := by omega
    rcases c3 with c | c | c
    · unfold fT_so at hgo
      rw [c, if_pos rfl] at hgo
      rw [c, nI_0] at q3
      rw [nI_0] at hgo
      by_cases hB : nI k.2.2 ≤ gA_fx p cr t k.2.1 <;>
      · simp (decide := true) only [hB, decide_true, decide_false, Bool.not_true, Bool.not_false, gb_i, if_true, if_false] at hgo
        simp (decide := true) only [E_X12_holds_0, E_X12_holds_1, E_X12_holds_3, E_X12_holds_4, E_X12_holds_7, E_X12_holds_8, E_X12_holds_9, E_X12_holds_13, E_X12_holds_14, E_X12_holds_17, E_X12_holds_18, E_X12_holds_19, E_X12_holds_22, E_X12_holds_23, E_X12_holds_26, E_X12_holds_28, E_X12_holds_29, E_X12_holds_31, E_X12_holds_33, E_X12_holds_35, E_X12_holds_38, E_X12_holds_39, E_X12_holds_42, E_X12_holds_44, E_X12_holds_45, E_X12_holds_46, E_X12_holds_47, E_X12_holds_50, E_X12_holds_52, E_X12_holds_53, E_X12_holds_54, E_X12_holds_55, E_X12_holds_58, E_X12_holds_59, E_X12_holds_62, E_X12_holds_63, E_X12_holds_64, E_X12_holds_67, E_X12_holds_69, E_X12_holds_72, E_X12_holds_75, E_X12_holds_76, E_X12_holds_79, E_X12_holds_81, E_X12_holds_82, E_X12_holds_83, E_X12_holds_85, E_X12_holds_87, E_X12_holds_90, E_X12_holds_91, E_X12_holds_94, E_X12_holds_96, E_X12_holds_97, E_X12_holds_98, E_X12_holds_99, E_X12_holds_102, E_X12_holds_103, E_X12_holds_106, E_X12_holds_108, E_X12_holds_109, E_X12_holds_112, E_X12_holds_113, E_X12_holds_116, E_X12_holds_117, E_X12_holds_120, E_X12_holds_121, E_X12_holds_124, E_X12_holds_126, E_X12_holds_127, E_X12_holds_128, E_X12_holds_129, E_X12_holds_132, E_X12_holds_133, E_X12_holds_136, E_X12_holds_138, E_X12_holds_139, E_X12_holds_142, E_X12_holds_143, E_X12_holds_146, E_X12_holds_147, E_X12_holds_148, E_X12_holds_151, E_X12_holds_152, E_X12_holds_154, E_X12_holds_157, E_X12_holds_158, E_X12_holds_159, E_X12_holds_160, E_X12_holds_163, E_X12_holds_165, E_X12_holds_167, E_X12_holds_169, E_X12_holds_170, E_X12_holds_172, E_X12_holds_173, E_X12_holds_175, E_X12_holds_176, E_X12_holds_179, E_X12_holds_181, E_X12_holds_183, E_X12_holds_186, E_X12_holds_188, E_X12_holds_190, E_X12_holds_192, E_X12_holds_193, E_X12_holds_196, E_X12_holds_197, E_X12_holds_200, E_X12_holds_201, E_X12_holds_204, E_X12_holds_206, E_X12_holds_207, E_X12_holds_210, E_X12_holds_212, E_X12_holds_214, E_X12_holds_216, E_X12_holds_217, E_X12_holds_220, E_X12_holds_221, E_X12_holds_224, E_X12_holds_225, E_X12_holds_228, E_X12_holds_230, E_X12_holds_232, E_X12_holds_234, E_X12_holds_235, E_X12_holds_238, E_X12_holds_239, E_X12_holds_242, E_X12_holds_243, E_X12_holds_244, E_X12_holds_247, E_X12_holds_250, E_X12_holds_253, E_X12_holds_254, E_X12_holds_257, E_X12_holds_258, E_X12_holds_259, rk_137, rc_137, rg_137_23, rg_137_24, rg_137_30, ra_153, rv_153, ra_154, rv_154, ra_157, rv_157, rs_157, i1, i2, j1, j2, w1, w2, hge, q0, q00, q1, q2, q3, q4, hfa, n1000, n100, n10, not_false_eq_true, p1, p2, hB, gb_n0, gb_n1, List.map_nil, List.map_cons, List.sum_cons, List.sum_nil, gcat_i, gcat_r, gcat_l, Nat.reduceAdd, Nat.reduceLeDiff, Nat.zero_le, Option.toList, List.cons_append, List.nil_append, gnk_i, gnk_r, gnk_n, gi_1, Nat.reduceLT, if_true, if_false]
        exact hgo
    · unfold fT_so at hgo
      rw [c, if_neg (by decide), if_pos rfl] at hgo
      rw [c, show nI 1 = 1 from rfl] at q3
      rw [show nI 1 = 1 from rfl] at hgo
      by_cases hB : gA_fx p cr t k.2.1 = nI k.2.2 <;>
      · simp (decide := true) only [hB, decide_true, decide_false, gb_i, if_true, if_false] at hgo
        simp (decide := true) only [E_X12_holds_0, E_X12_holds_1, E_X12_holds_3, E_X12_holds_4, E_X12_holds_7, E_X12_holds_8, E_X12_holds_9, E_X12_holds_13, E_X12_holds_14, E_X12_holds_17, E_X12_holds_18, E_X12_holds_19, E_X12_holds_22, E_X12_holds_23, E_X12_holds_26, E_X12_holds_28, E_X12_holds_29, E_X12_holds_31, E_X12_holds_33, E_X12_holds_35, E_X12_holds_38, E_X12_holds_39, E_X12_holds_42, E_X12_holds_44, E_X12_holds_45, E_X12_holds_46, E_X12_holds_47, E_X12_holds_50, E_X12_holds_52, E_X12_holds_53, E_X12_holds_54, E_X12_holds_55, E_X12_holds_58, E_X12_holds_59, E_X12_holds_62, E_X12_holds_63, E_X12_holds_64, E_X12_holds_67, E_X12_holds_69, E_X12_holds_72, E_X12_holds_75, E_X12_holds_76, E_X12_holds_79, E_X12_holds_81, E_X12_holds_82, E_X12_holds_83, E_X12_holds_85, E_X12_holds_87, E_X12_holds_90, E_X12_holds_91, E_X12_holds_94, E_X12_holds_96, E_X12_holds_97, E_X12_holds_98, E_X12_holds_99, E_X12_holds_102, E_X12_holds_103, E_X12_holds_106, E_X12_holds_108, E_X12_holds_109, E_X12_holds_112, E_X12_holds_113, E_X12_holds_116, E_X12_holds_117, E_X12_holds_120, E_X12_holds_121, E_X12_holds_124, E_X12_holds_126, E_X12_holds_127, E_X12_holds_128, E_X12_holds_129, E_X12_holds_132, E_X12_holds_133, E_X12_holds_136, E_X12_holds_138, E_X12_holds_139, E_X12_holds_142, E_X12_holds_143, E_X12_holds_146, E_X12_holds_147, E_X12_holds_148, E_X12_holds_151, E_X12_holds_152, E_X12_holds_154, E_X12_holds_157, E_X12_holds_158, E_X12_holds_159, E_X12_holds_160, E_X12_holds_163, E_X12_holds_165, E_X12_holds_167, E_X12_holds_169, E_X12_holds_170, E_X12_holds_172, E_X12_holds_173, E_X12_holds_175, E_X12_holds_176, E_X12_holds_179, E_X12_holds_181, E_X12_holds_183, E_X12_holds_186, E_X12_holds_188, E_X12_holds_190, E_X12_holds_192, E_X12_holds_193, E_X12_holds_196, E_X12_holds_197, E_X12_holds_200, E_X12_holds_201, E_X12_holds_204, E_X12_holds_206, E_X12_holds_207, E_X12_holds_210, E_X12_holds_212, E_X12_holds_214, E_X12_holds_216, E_X12_holds_217, E_X12_holds_220, E_X12_holds_221, E_X12_holds_224, E_X12_holds_225, E_X12_holds_228, E_X12_holds_230, E_X12_holds_232, E_X12_holds_234, E_X12_holds_235, E_X12_holds_238, E_X12_holds_239, E_X12_holds_242, E_X12_holds_243, E_X12_holds_244, E_X12_holds_247, E_X12_holds_250, E_X12_holds_253, E_X12_holds_254, E_X12_holds_257, E_X12_holds_258, E_X12_holds_259, rk_137, rc_137, rg_137_23, rg_137_24, rg_137_30, ra_153, rv_153, ra_154, rv_154, ra_157, rv_157, rs_157, i1, i2, j1, j2, w1, w2, hge, q0, q00, q1, q2, q3, q4, hfa, n1000, n100, n10, not_false_eq_true, p1, p2, hB, gb_n0, gb_n1, List.map_nil, List.map_cons, List.sum_cons, List.sum_nil, gcat_i, gcat_r, gcat_l, Nat.reduceAdd, Nat.reduceLeDiff, Nat.zero_le, Option.toList, List.cons_append, List.nil_append, gnk_i, gnk_r, gnk_n, gi_1, Nat.reduceLT, if_true, if_false]
        exact hgo
    · unfold fT_so at hgo
      rw [c, if_neg (by decide), if_neg (by decide)] at hgo
      rw [c, show nI 2 = 2 from rfl] at q3
      rw [show nI 2 = 2 from rfl] at hgo
      by_cases hB : gA_fx p cr t k.2.1 ≤ nI k.2.2 <;>
      · simp (decide := true) only [hB, decide_true, decide_false, Bool.not_true, Bool.not_false, gb_i, if_true, if_false] at hgo
        simp (decide := true) only [E_X12_holds_0, E_X12_holds_1, E_X12_holds_3, E_X12_holds_4, E_X12_holds_7, E_X12_holds_8, E_X12_holds_9, E_X12_holds_13, E_X12_holds_14, E_X12_holds_17, E_X12_holds_18, E_X12_holds_19, E_X12_holds_22, E_X12_holds_23, E_X12_holds_26, E_X12_holds_28, E_X12_holds_29, E_X12_holds_31, E_X12_holds_33, E_X12_holds_35, E_X12_holds_38, E_X12_holds_39, E_X12_holds_42, E_X12_holds_44, E_X12_holds_45, E_X12_holds_46, E_X12_holds_47, E_X12_holds_50, E_X12_holds_52, E_X12_holds_53, E_X12_holds_54, E_X12_holds_55, E_X12_holds_58, E_X12_holds_59, E_X12_holds_62, E_X12_holds_63, E_X12_holds_64, E_X12_holds_67, E_X12_holds_69, E_X12_holds_72, E_X12_holds_75, E_X12_holds_76, E_X12_holds_79, E_X12_holds_81, E_X12_holds_82, E_X12_holds_83, E_X12_holds_85, E_X12_holds_87, E_X12_holds_90, E_X12_holds_91, E_X12_holds_94, E_X12_holds_96, E_X12_holds_97, E_X12_holds_98, E_X12_holds_99, E_X12_holds_102, E_X12_holds_103, E_X12_holds_106, E_X12_holds_108, E_X12_holds_109, E_X12_holds_112, E_X12_holds_113, E_X12_holds_116, E_X12_holds_117, E_X12_holds_120, E_X12_holds_121, E_X12_holds_124, E_X12_holds_126, E_X12_holds_127, E_X12_holds_128, E_X12_holds_129, E_X12_holds_132, E_X12_holds_133, E_X12_holds_136, E_X12_holds_138, E_X12_holds_139, E_X12_holds_142, E_X12_holds_143, E_X12_holds_146, E_X12_holds_147, E_X12_holds_148, E_X12_holds_151, E_X12_holds_152, E_X12_holds_154, E_X12_holds_157, E_X12_holds_158, E_X12_holds_159, E_X12_holds_160, E_X12_holds_163, E_X12_holds_165, E_X12_holds_167, E_X12_holds_169, E_X12_holds_170, E_X12_holds_172, E_X12_holds_173, E_X12_holds_175, E_X12_holds_176, E_X12_holds_179, E_X12_holds_181, E_X12_holds_183, E_X12_holds_186, E_X12_holds_188, E_X12_holds_190, E_X12_holds_192, E_X12_holds_193, E_X12_holds_196, E_X12_holds_197, E_X12_holds_200, E_X12_holds_201, E_X12_holds_204, E_X12_holds_206, E_X12_holds_207, E_X12_holds_210, E_X12_holds_212, E_X12_holds_214, E_X12_holds_216, E_X12_holds_217, E_X12_holds_220, E_X12_holds_221, E_X12_holds_224, E_X12_holds_225, E_X12_holds_228, E_X12_holds_230, E_X12_holds_232, E_X12_holds_234, E_X12_holds_235, E_X12_holds_238, E_X12_holds_239, E_X12_holds_242, E_X12_holds_243, E_X12_holds_244, E_X12_holds_247, E_X12_holds_250, E_X12_holds_253, E_X12_holds_254, E_X12_holds_257, E_X12_holds_258, E_X12_holds_259, rk_137, rc_137, rg_137_23, rg_137_24, rg_137_30, ra_153, rv_153, ra_154, rv_154, ra_157, rv_157, rs_157, i1, i2, j1, j2, w1, w2, hge, q0, q00, q1, q2, q3, q4, hfa, n1000, n100, n10, not_false_eq_true, p1, p2, hB, gb_n0, gb_n1, List.map_nil, List.map_cons, List.sum_cons, List.sum_nil, gcat_i, gcat_r, gcat_l, Nat.reduceAdd, Nat.reduceLeDiff, Nat.zero_le, Option.toList, List.cons_append, List.nil_append, gnk_i, gnk_r, gnk_n, gi_1, Nat.reduceLT, if_true, if_false]
        exact hgo
theorem m_holds (hR : mR s0 p) (hk : gA_ok p) (hc : cr < p.1.2.1) (ht : t < p.1.2.2) (hcl : cl < 60) (hT : mTk s0 cl ts) (hw : fW 11 ts) {s : gm_S} (hf : mFr s0 s) (hq : ∀ s', mFr s0 s' → Q (some (.int (gb_i (fV (gA_fx p cr t) ts)))) (gm_m s')) : gc_X w (d + 1) 145 0 [some (.ref 137), some (.int (nI cl)), some (.int (nI cr)), some (.int (nI t)), none, none, none, none, none] [] (gm_m s) Q := by
  obtain ⟨a, h0, h1, h6, h2⟩ := hT
  obtain ⟨hok, hrun⟩ := fV_eq (fx := gA_fx p cr t) hw (by omega)
  have i1 : vp_in (nI cl) 60 := vp_in_nI (by omega) (by omega)
  have i2 : (nI cl).toNatClampNeg = cl := nI_clamp (by omega)
  have w0 := hf.2 152 cl (by decide)
  rw [h0] at w0
  have h := m_holds_loop (w := w) (d := d) (a := a) (Q := Q) hR hk hc ht hcl h1 h6 h2 hq ts.length 0 [] s none none none (Nat.zero_add _) hf trivial (by simp) (by rw [List.drop_zero]; exact hok) (by rw [List.drop_zero]; exact hrun)
  rw [show nI ([] : List Bool).length = 0 from rfl, Nat.add_zero] at h
  simp only [E_X12_holds_0, E_X12_holds_1, E_X12_holds_3, E_X12_holds_4, E_X12_holds_7, E_X12_holds_8, E_X12_holds_9, rk_137, rg_137_22, ra_152, rv_152, i1, i2, w0, gnk_i, gnk_r, gnk_n, gi_1, Nat.reduceLT, if_true, if_false]
  exact h
end
