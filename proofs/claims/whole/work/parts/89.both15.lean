/-! both sides: image, undo -/
theorem gCw_nf {s0 s : gm_S} {src : Nat → Nat} {L : List Nat} {N b j : Nat} (h : gCw s0 s src (fun b j => b ∈ L ∧ j < N)) (q : ¬ b ∈ L) : s.1 b j = s0.1 b j := (h.2 b j).2 (fun e => q e.1)
theorem gCw_yf {s0 s : gm_S} {src : Nat → Nat} {L : List Nat} {N b j : Nat} (h : gCw s0 s src (fun b j => b ∈ L ∧ j < N)) (q : b ∈ L) (e : j < N) : s.1 b j = s0.1 (src b) j := (h.2 b j).1 ⟨q, e⟩
def mIm0 (s : gm_S) : gm_S := (gm_si (gm_si (gm_si (gm_si (gm_si (gm_si (gm_si (gm_si s 137 48 1) 137 49 (s.1 137 14)) 137 50 (s.1 137 0)) 137 51 (s.1 137 1)) 137 52 (s.1 137 2)) 137 53 (s.1 137 38)) 137 54 (s.1 137 42)) 137 55 (s.1 137 43))
theorem mIm0_fr {s : gm_S} {b j : Nat} (h : ¬ (b = 137 ∧ (j = 48 ∨ j = 49 ∨ j = 50 ∨ j = 51 ∨ j = 52 ∨ j = 53 ∨ j = 54 ∨ j = 55))) : (mIm0 s).1 b j = s.1 b j := by
  unfold mIm0
  rw [gsi_1, if_neg (fun e => by omega), gsi_1, if_neg (fun e => by omega), gsi_1, if_neg (fun e => by omega), gsi_1, if_neg (fun e => by omega), gsi_1, if_neg (fun e => by omega), gsi_1, if_neg (fun e => by omega), gsi_1, if_neg (fun e => by omega), gsi_1, if_neg (fun e => by omega)]
theorem mIm0_at {s : gm_S} : (mIm0 s).1 137 48 = 1 ∧ (mIm0 s).1 137 49 = s.1 137 14 ∧ (mIm0 s).1 137 50 = s.1 137 0 ∧ (mIm0 s).1 137 51 = s.1 137 1 ∧ (mIm0 s).1 137 52 = s.1 137 2 ∧ (mIm0 s).1 137 53 = s.1 137 38 ∧ (mIm0 s).1 137 54 = s.1 137 42 ∧ (mIm0 s).1 137 55 = s.1 137 43 := by
  unfold mIm0
  refine ⟨?_, ?_, ?_, ?_, ?_, ?_, ?_, ?_⟩ <;> simp (decide := true) [gsi_1]
def mImP (s s' : gm_S) : Prop := s'.2 = s.2 ∧ (∀ b j, ¬ ((b = 137 ∧ (j = 48 ∨ j = 49 ∨ j = 50 ∨ j = 51 ∨ j = 52 ∨ j = 53 ∨ j = 54 ∨ j = 55)) ∨ (170 ≤ b ∧ b ≤ 186)) → s'.1 b j = s.1 b j) ∧ (s'.1 137 48 = 1 ∧ s'.1 137 49 = s.1 137 14 ∧ s'.1 137 50 = s.1 137 0 ∧ s'.1 137 51 = s.1 137 1 ∧ s'.1 137 52 = s.1 137 2 ∧ s'.1 137 53 = s.1 137 38 ∧ s'.1 137 54 = s.1 137 42 ∧ s'.1 137 55 = s.1 137 43) ∧ (∀ j, j < 4 → s'.1 170 j = s.1 138 j) ∧ (∀ j, j < 6 → s'.1 171 j = s.1 139 j) ∧ (∀ j, j < 6 → s'.1 172 j = s.1 140 j) ∧ (∀ j, j < 6 → s'.1 173 j = s.1 141 j) ∧ (∀ j, j < 24 → s'.1 174 j = s.1 142 j) ∧ (∀ j, j < 8 → s'.1 175 j = s.1 143 j) ∧ (∀ j, j < 8 → s'.1 176 j = s.1 144 j) ∧ (∀ j, j < 8 → s'.1 177 j = s.1 145 j) ∧ (∀ j, j < 8 → s'.1 178 j = s.1 146 j) ∧ (∀ j, j < 8 → s'.1 179 j = s.1 147 j) ∧ (∀ j, j < 8 → s'.1 185 j = s.1 168 j) ∧ (∀ j, j < 8 → s'.1 186 j = s.1 169 j) ∧ (∀ j, j < 5 → s'.1 180 j = s.1 163 j) ∧ (∀ j, j < 5 → s'.1 181 j = s.1 164 j) ∧ (∀ j, j < 5 → s'.1 182 j = s.1 165 j) ∧ (∀ j, j < 10 → s'.1 183 j = s.1 166 j) ∧ (∀ j, j < 10 → s'.1 184 j = s.1 167 j)
section
variable {w : Nat × (Nat → Int32)} {s : gm_S} {d : Nat} {Q : Option Value → gc_M → Prop}
theorem mIm_all (hq : ∀ s', mImP s s' → gc_X w d 184 347 [some (.ref 137), some (.int 10)] [] (gm_m s') Q) : gc_X w d 184 0 [some (.ref 137), none] [] (gm_m s) Q := by
  have e0 : gc_X w d 184 0 [some (.ref 137), none] [] (gm_m s) Q = gc_X w d 184 63 [some (.ref 137), some (.int (nI 0))] [] (gm_m (mIm0 s)) Q := by
    unfold mIm0
    rw [nI_0]
    simp (decide := true) only [E_X12_image_0, E_X12_image_1, E_X12_image_2, E_X12_image_5, E_X12_image_6, E_X12_image_7, E_X12_image_10, E_X12_image_13, E_X12_image_14, E_X12_image_15, E_X12_image_18, E_X12_image_21, E_X12_image_22, E_X12_image_23, E_X12_image_26, E_X12_image_29, E_X12_image_30, E_X12_image_31, E_X12_image_34, E_X12_image_37, E_X12_image_38, E_X12_image_39, E_X12_image_42, E_X12_image_45, E_X12_image_46, E_X12_image_47, E_X12_image_50, E_X12_image_53, E_X12_image_54, E_X12_image_55, E_X12_image_58, E_X12_image_61, E_X12_image_62, E_X12_image_64, E_X12_image_65, E_X12_image_68, E_X12_image_69, E_X12_image_72, E_X12_image_73, E_X12_image_74, E_X12_image_77, E_X12_image_78, E_X12_image_79, E_X12_image_80, E_X12_image_83, E_X12_image_86, E_X12_image_87, E_X12_image_89, E_X12_image_91, E_X12_image_94, E_X12_image_95, E_X12_image_98, E_X12_image_99, E_X12_image_100, E_X12_image_103, E_X12_image_104, E_X12_image_105, E_X12_image_106, E_X12_image_107, E_X12_image_110, E_X12_image_111, E_X12_image_112, E_X12_image_115, E_X12_image_116, E_X12_image_117, E_X12_image_118, E_X12_image_119, E_X12_image_122, E_X12_image_123, E_X12_image_124, E_X12_image_127, E_X12_image_128, E_X12_image_129, E_X12_image_130, E_X12_image_133, E_X12_image_136, E_X12_image_137, E_X12_image_139, E_X12_image_141, E_X12_image_144, E_X12_image_145, E_X12_image_148, E_X12_image_149, E_X12_image_150, E_X12_image_153, E_X12_image_154, E_X12_image_155, E_X12_image_156, E_X12_image_159, E_X12_image_162, E_X12_image_163, E_X12_image_165, E_X12_image_167, E_X12_image_170, E_X12_image_171, E_X12_image_174, E_X12_image_175, E_X12_image_176, E_X12_image_179, E_X12_image_180, E_X12_image_181, E_X12_image_182, E_X12_image_183, E_X12_image_186, E_X12_image_187, E_X12_image_188, E_X12_image_191, E_X12_image_192, E_X12_image_193, E_X12_image_194, E_X12_image_195, E_X12_image_198, E_X12_image_199, E_X12_image_200, E_X12_image_203, E_X12_image_204, E_X12_image_205, E_X12_image_206, E_X12_image_207, E_X12_image_210, E_X12_image_211, E_X12_image_212, E_X12_image_215, E_X12_image_216, E_X12_image_217, E_X12_image_218, E_X12_image_219, E_X12_image_222, E_X12_image_223, E_X12_image_224, E_X12_image_227, E_X12_image_228, E_X12_image_229, E_X12_image_230, E_X12_image_231, E_X12_image_234, E_X12_image_235, E_X12_image_236, E_X12_image_239, E_X12_image_240, E_X12_image_241, E_X12_image_242, E_X12_image_243, E_X12_image_246, E_X12_image_247, E_X12_image_248, E_X12_image_251, E_X12_image_252, E_X12_image_253, E_X12_image_254, E_X12_image_257, E_X12_image_260, E_X12_image_261, E_X12_image_263, E_X12_image_264, E_X12_image_267, E_X12_image_268, E_X12_image_271, E_X12_image_272, E_X12_image_273, E_X12_image_276, E_X12_image_277, E_X12_image_278, E_X12_image_279, E_X12_image_280, E_X12_image_283, E_X12_image_284, E_X12_image_285, E_X12_image_288, E_X12_image_289, E_X12_image_290, E_X12_image_291, E_X12_image_292, E_X12_image_295, E_X12_image_296, E_X12_image_297, E_X12_image_300, E_X12_image_301, E_X12_image_302, E_X12_image_303, E_X12_image_306, E_X12_image_309, E_X12_image_310, E_X12_image_312, E_X12_image_314, E_X12_image_317, E_X12_image_318, E_X12_image_321, E_X12_image_322, E_X12_image_323, E_X12_image_326, E_X12_image_327, E_X12_image_328, E_X12_image_329, E_X12_image_330, E_X12_image_333, E_X12_image_334, E_X12_image_335, E_X12_image_338, E_X12_image_339, E_X12_image_340, E_X12_image_341, E_X12_image_344, E_X12_image_347, E_X12_image_348, E_X12_image_351, rk_137, rg_137_0, rg_137_1, rg_137_2, rg_137_14, rg_137_38, rg_137_42, rg_137_43, rp_137_48, rp_137_49, rp_137_50, rp_137_51, rp_137_52, rp_137_53, rp_137_54, rp_137_55, gsi_1, if_false, if_true, and_false, false_and, gnk_i, gnk_r, gnk_n, gi_1, Nat.reduceLT, if_true, if_false]
  rw [e0]
  refine im_0 (fun s1 h1 => ?_) 4 0 _ (by omega) (gCw_0 (fun b j q => absurd q.2 (Nat.not_lt_zero j)))
  simp only [E_X12_image_86, E_X12_image_87, gnk_i, gnk_r, gnk_n, gi_1, Nat.reduceLT, if_true, if_false]
  rw [← nI_0]
  refine im_1 (fun s2 h2 => ?_) 6 0 _ (by omega) (gCw_0 (fun b j q => absurd q.2 (Nat.not_lt_zero j)))
  simp only [E_X12_image_136, E_X12_image_137, gnk_i, gnk_r, gnk_n, gi_1, Nat.reduceLT, if_true, if_false]
  rw [← nI_0]
  refine im_2 (fun s3 h3 => ?_) 24 0 _ (by omega) (gCw_0 (fun b j q => absurd q.2 (Nat.not_lt_zero j)))
  simp only [E_X12_image_162, E_X12_image_163, gnk_i, gnk_r, gnk_n, gi_1, Nat.reduceLT, if_true, if_false]
  rw [← nI_0]
  refine im_3 (fun s4 h4 => ?_) 8 0 _ (by omega) (gCw_0 (fun b j q => absurd q.2 (Nat.not_lt_zero j)))
  simp only [E_X12_image_260, E_X12_image_261, gnk_i, gnk_r, gnk_n, gi_1, Nat.reduceLT, if_true, if_false]
  rw [← nI_0]
  refine im_4 (fun s5 h5 => ?_) 5 0 _ (by omega) (gCw_0 (fun b j q => absurd q.2 (Nat.not_lt_zero j)))
  simp only [E_X12_image_309, E_X12_image_310, gnk_i, gnk_r, gnk_n, gi_1, Nat.reduceLT, if_true, if_false]
  rw [← nI_0]
  refine im_5 (fun s6 h6 => ?_) 10 0 _ (by omega) (gCw_0 (fun b j q => absurd q.2 (Nat.not_lt_zero j)))
  have fr : ∀ b j, (¬ (170 ≤ b ∧ b ≤ 186)) → s6.1 b j = (mIm0 s).1 b j := by
    intro b j q
    rw [gCw_nf h6 (by simp only [List.mem_cons, List.mem_nil_iff, or_false]; omega), gCw_nf h5 (by simp only [List.mem_cons, List.mem_nil_iff, or_false]; omega), gCw_nf h4 (by simp only [List.mem_cons, List.mem_nil_iff, or_false]; omega), gCw_nf h3 (by simp only [List.mem_cons, List.mem_nil_iff, or_false]; omega), gCw_nf h2 (by simp only [List.mem_cons, List.mem_nil_iff, or_false]; omega), gCw_nf h1 (by simp only [List.mem_cons, List.mem_nil_iff, or_false]; omega)]
  refine hq s6 ⟨by rw [h6.1, h5.1, h4.1, h3.1, h2.1, h1.1]; rfl, fun b j q => by rw [fr b j (fun e => q (Or.inr e)), mIm0_fr (fun e => q (Or.inl e))], ?_, ?_, ?_, ?_, ?_, ?_, ?_, ?_, ?_, ?_, ?_, ?_, ?_, ?_, ?_, ?_, ?_, ?_⟩
  · have a := mIm0_at (s := s)
    exact ⟨(fr _ _ (by omega)).trans a.1, (fr _ _ (by omega)).trans a.2.1, (fr _ _ (by omega)).trans a.2.2.1, (fr _ _ (by omega)).trans a.2.2.2.1, (fr _ _ (by omega)).trans a.2.2.2.2.1, (fr _ _ (by omega)).trans a.2.2.2.2.2.1, (fr _ _ (by omega)).trans a.2.2.2.2.2.2.1, (fr _ _ (by omega)).trans a.2.2.2.2.2.2.2⟩
  · intro j hj
    rw [gCw_nf h6 (b := 170) (by decide), gCw_nf h5 (b := 170) (by decide), gCw_nf h4 (b := 170) (by decide), gCw_nf h3 (b := 170) (by decide), gCw_nf h2 (b := 170) (by decide), gCw_yf h1 (b := 170) (by decide) hj]
    show (mIm0 s).1 138 j = s.1 138 j
    rw [mIm0_fr (fun e => by omega)]
  · intro j hj
    rw [gCw_nf h6 (b := 171) (by decide), gCw_nf h5 (b := 171) (by decide), gCw_nf h4 (b := 171) (by decide), gCw_nf h3 (b := 171) (by decide), gCw_yf h2 (b := 171) (by decide) hj]
    show s1.1 139 j = s.1 139 j
    rw [gCw_nf h1 (b := 139) (by decide), mIm0_fr (fun e => by omega)]
  · intro j hj
    rw [gCw_nf h6 (b := 172) (by decide), gCw_nf h5 (b := 172) (by decide), gCw_nf h4 (b := 172) (by decide), gCw_nf h3 (b := 172) (by decide), gCw_yf h2 (b := 172) (by decide) hj]
    show s1.1 140 j = s.1 140 j
    rw [gCw_nf h1 (b := 140) (by decide), mIm0_fr (fun e => by omega)]
  · intro j hj
    rw [gCw_nf h6 (b := 173) (by decide), gCw_nf h5 (b := 173) (by decide), gCw_nf h4 (b := 173) (by decide), gCw_nf h3 (b := 173) (by decide), gCw_yf h2 (b := 173) (by decide) hj]
    show s1.1 141 j = s.1 141 j
    rw [gCw_nf h1 (b := 141) (by decide), mIm0_fr (fun e => by omega)]
  · intro j hj
    rw [gCw_nf h6 (b := 174) (by decide), gCw_nf h5 (b := 174) (by decide), gCw_nf h4 (b := 174) (by decide), gCw_yf h3 (b := 174) (by decide) hj]
    show s2.1 142 j = s.1 142 j
    rw [gCw_nf h2 (b := 142) (by decide), gCw_nf h1 (b := 142) (by decide), mIm0_fr (fun e => by omega)]
  · intro j hj
    rw [gCw_nf h6 (b := 175) (by decide), gCw_nf h5 (b := 175) (by decide), gCw_yf h4 (b := 175) (by decide) hj]
    show s3.1 143 j = s.1 143 j
    rw [gCw_nf h3 (b := 143) (by decide), gCw_nf h2 (b := 143) (by decide), gCw_nf h1 (b := 143) (by decide), mIm0_fr (fun e => by omega)]
  · intro j hj
    rw [gCw_nf h6 (b := 176) (by decide), gCw_nf h5 (b := 176) (by decide), gCw_yf h4 (b := 176) (by decide) hj]
    show s3.1 144 j = s.1 144 j
    rw [gCw_nf h3 (b := 144) (by decide), gCw_nf h2 (b := 144) (by decide), gCw_nf h1 (b := 144) (by decide), mIm0_fr (fun e => by omega)]
  · intro j hj
    rw [gCw_nf h6 (b := 177) (by decide), gCw_nf h5 (b := 177) (by decide), gCw_yf h4 (b := 177) (by decide) hj]
    show s3.1 145 j = s.1 145 j
    rw [gCw_nf h3 (b := 145) (by decide), gCw_nf h2 (b := 145) (by decide), gCw_nf h1 (b := 145) (by decide), mIm0_fr (fun e => by omega)]
  · intro j hj
    rw [gCw_nf h6 (b := 178) (by decide), gCw_nf h5 (b := 178) (by decide), gCw_yf h4 (b := 178) (by decide) hj]
    show s3.1 146 j = s.1 146 j
    rw [gCw_nf h3 (b := 146) (by decide), gCw_nf h2 (b := 146) (by decide), gCw_nf h1 (b := 146) (by decide), mIm0_fr (fun e => by omega)]
  · intro j hj
    rw [gCw_nf h6 (b := 179) (by decide), gCw_nf h5 (b := 179) (by decide), gCw_yf h4 (b := 179) (by decide) hj]
    show s3.1 147 j = s.1 147 j
    rw [gCw_nf h3 (b := 147) (by decide), gCw_nf h2 (b := 147) (by decide), gCw_nf h1 (b := 147) (by decide), mIm0_fr (fun e => by omega)]
  · intro j hj
    rw [gCw_nf h6 (b := 185) (by decide), gCw_nf h5 (b := 185) (by decide), gCw_yf h4 (b := 185) (by decide) hj]
    show s3.1 168 j = s.1 168 j
    rw [gCw_nf h3 (b := 168) (by decide), gCw_nf h2 (b := 168) (by decide), gCw_nf h1 (b := 168) (by decide), mIm0_fr (fun e => by omega)]
  · intro j hj
    rw [gCw_nf h6 (b := 186) (by decide), gCw_nf h5 (b := 186) (by decide), gCw_yf h4 (b := 186) (by decide) hj]
    show s3.1 169 j = s.1 169 j
    rw [gCw_nf h3 (b := 169) (by decide), gCw_nf h2 (b := 169) (by decide), gCw_nf h1 (b := 169) (by decide), mIm0_fr (fun e => by omega)]
  · intro j hj
    rw [gCw_nf h6 (b := 180) (by decide), gCw_yf h5 (b := 180) (by decide) hj]
    show s4.1 163 j = s.1 163 j
    rw [gCw_nf h4 (b := 163) (by decide), gCw_nf h3 (b := 163) (by decide), gCw_nf h2 (b := 163) (by decide), gCw_nf h1 (b := 163) (by decide), mIm0_fr (fun e => by omega)]
  · intro j hj
    rw [gCw_nf h6 (b := 181) (by decide), gCw_yf h5 (b := 181) (by decide) hj]
    show s4.1 164 j = s.1 164 j
    rw [gCw_nf h4 (b := 164) (by decide), gCw_nf h3 (b := 164) (by decide), gCw_nf h2 (b := 164) (by decide), gCw_nf h1 (b := 164) (by decide), mIm0_fr (fun e => by omega)]
  · intro j hj
    rw [gCw_nf h6 (b := 182) (by decide), gCw_yf h5 (b := 182) (by decide) hj]
    show s4.1 165 j = s.1 165 j
    rw [gCw_nf h4 (b := 165) (by decide), gCw_nf h3 (b := 165) (by decide), gCw_nf h2 (b := 165) (by decide), gCw_nf h1 (b := 165) (by decide), mIm0_fr (fun e => by omega)]
  · intro j hj
    rw [gCw_yf h6 (b := 183) (by decide) hj]
    show s5.1 166 j = s.1 166 j
    rw [gCw_nf h5 (b := 166) (by decide), gCw_nf h4 (b := 166) (by decide), gCw_nf h3 (b := 166) (by decide), gCw_nf h2 (b := 166) (by decide), gCw_nf h1 (b := 166) (by decide), mIm0_fr (fun e => by omega)]
  · intro j hj
    rw [gCw_yf h6 (b := 184) (by decide) hj]
    show s5.1 167 j = s.1 167 j
    rw [gCw_nf h5 (b := 167) (by decide), gCw_nf h4 (b := 167) (by decide), gCw_nf h3 (b := 167) (by decide), gCw_nf h2 (b := 167) (by decide), gCw_nf h1 (b := 167) (by decide), mIm0_fr (fun e => by omega)]
end
def mUn0 (s : gm_S) : gm_S := (gm_si (gm_si (gm_si (gm_si (gm_si (gm_si (gm_si s 137 14 (s.1 137 49)) 137 0 (s.1 137 50)) 137 1 (s.1 137 51)) 137 2 (s.1 137 52)) 137 38 (s.1 137 53)) 137 42 (s.1 137 54)) 137 43 (s.1 137 55))
theorem mUn0_fr {s : gm_S} {b j : Nat} (h : ¬ (b = 137 ∧ (j = 14 ∨ j = 0 ∨ j = 1 ∨ j = 2 ∨ j = 38 ∨ j = 42 ∨ j = 43))) : (mUn0 s).1 b j = s.1 b j := by
  unfold mUn0
  rw [gsi_1, if_neg (fun e => by omega), gsi_1, if_neg (fun e => by omega), gsi_1, if_neg (fun e => by omega), gsi_1, if_neg (fun e => by omega), gsi_1, if_neg (fun e => by omega), gsi_1, if_neg (fun e => by omega), gsi_1, if_neg (fun e => by omega)]
theorem mUn0_at {s : gm_S} : (mUn0 s).1 137 14 = s.1 137 49 ∧ (mUn0 s).1 137 0 = s.1 137 50 ∧ (mUn0 s).1 137 1 = s.1 137 51 ∧ (mUn0 s).1 137 2 = s.1 137 52 ∧ (mUn0 s).1 137 38 = s.1 137 53 ∧ (mUn0 s).1 137 42 = s.1 137 54 ∧ (mUn0 s).1 137 43 = s.1 137 55 := by
  unfold mUn0
  refine ⟨?_, ?_, ?_, ?_, ?_, ?_, ?_⟩ <;> simp (decide := true) [gsi_1]
def mUnP (s s' : gm_S) : Prop := s'.2 = s.2 ∧ (∀ b j, ¬ ((b = 137 ∧ (j = 14 ∨ j = 0 ∨ j = 1 ∨ j = 2 ∨ j = 38 ∨ j = 42 ∨ j = 43)) ∨ ((138 ≤ b ∧ b ≤ 147) ∨ (163 ≤ b ∧ b ≤ 169))) → s'.1 b j = s.1 b j) ∧ (s'.1 137 14 = s.1 137 49 ∧ s'.1 137 0 = s.1 137 50 ∧ s'.1 137 1 = s.1 137 51 ∧ s'.1 137 2 = s.1 137 52 ∧ s'.1 137 38 = s.1 137 53 ∧ s'.1 137 42 = s.1 137 54 ∧ s'.1 137 43 = s.1 137 55) ∧ (∀ j, j < 4 → s'.1 138 j = s.1 170 j) ∧ (∀ j, j < 6 → s'.1 139 j = s.1 171 j) ∧ (∀ j, j < 6 → s'.1 140 j = s.1 172 j) ∧ (∀ j, j < 6 → s'.1 141 j = s.1 173 j) ∧ (∀ j, j < 24 → s'.1 142 j = s.1 174 j) ∧ (∀ j, j < 8 → s'.1 143 j = s.1 175 j) ∧ (∀ j, j < 8 → s'.1 144 j = s.1 176 j) ∧ (∀ j, j < 8 → s'.1 145 j = s.1 177 j) ∧ (∀ j, j < 8 → s'.1 146 j = s.1 178 j) ∧ (∀ j, j < 8 → s'.1 147 j = s.1 179 j) ∧ (∀ j, j < 8 → s'.1 168 j = s.1 185 j) ∧ (∀ j, j < 8 → s'.1 169 j = s.1 186 j) ∧ (∀ j, j < 5 → s'.1 163 j = s.1 180 j) ∧ (∀ j, j < 5 → s'.1 164 j = s.1 181 j) ∧ (∀ j, j < 5 → s'.1 165 j = s.1 182 j) ∧ (∀ j, j < 10 → s'.1 166 j = s.1 183 j) ∧ (∀ j, j < 10 → s'.1 167 j = s.1 184 j)
section
variable {w : Nat × (Nat → Int32)} {s : gm_S} {d : Nat} {Q : Option Value → gc_M → Prop}
theorem mUn_all (h48 : ¬ s.1 137 48 = 0) (hq : ∀ s', mUnP s s' → gc_X w d 185 352 [some (.ref 137), some (.int 10)] [] (gm_m s') Q) : gc_X w d 185 0 [some (.ref 137), none] [] (gm_m s) Q := by
  have e0 : gc_X w d 185 0 [some (.ref 137), none] [] (gm_m s) Q = gc_X w d 185 68 [some (.ref 137), some (.int (nI 0))] [] (gm_m (mUn0 s)) Q := by
    unfold mUn0
    rw [nI_0]
    simp (decide := true) only [E_X12_undo_0, E_X12_undo_1, E_X12_undo_4, E_X12_undo_7, E_X12_undo_9, E_X12_undo_10, E_X12_undo_11, E_X12_undo_12, E_X12_undo_15, E_X12_undo_18, E_X12_undo_19, E_X12_undo_20, E_X12_undo_23, E_X12_undo_26, E_X12_undo_27, E_X12_undo_28, E_X12_undo_31, E_X12_undo_34, E_X12_undo_35, E_X12_undo_36, E_X12_undo_39, E_X12_undo_42, E_X12_undo_43, E_X12_undo_44, E_X12_undo_47, E_X12_undo_50, E_X12_undo_51, E_X12_undo_52, E_X12_undo_55, E_X12_undo_58, E_X12_undo_59, E_X12_undo_60, E_X12_undo_63, E_X12_undo_66, E_X12_undo_67, E_X12_undo_69, E_X12_undo_70, E_X12_undo_73, E_X12_undo_74, E_X12_undo_77, E_X12_undo_78, E_X12_undo_79, E_X12_undo_82, E_X12_undo_83, E_X12_undo_84, E_X12_undo_85, E_X12_undo_88, E_X12_undo_91, E_X12_undo_92, E_X12_undo_94, E_X12_undo_96, E_X12_undo_99, E_X12_undo_100, E_X12_undo_103, E_X12_undo_104, E_X12_undo_105, E_X12_undo_108, E_X12_undo_109, E_X12_undo_110, E_X12_undo_111, E_X12_undo_112, E_X12_undo_115, E_X12_undo_116, E_X12_undo_117, E_X12_undo_120, E_X12_undo_121, E_X12_undo_122, E_X12_undo_123, E_X12_undo_124, E_X12_undo_127, E_X12_undo_128, E_X12_undo_129, E_X12_undo_132, E_X12_undo_133, E_X12_undo_134, E_X12_undo_135, E_X12_undo_138, E_X12_undo_141, E_X12_undo_142, E_X12_undo_144, E_X12_undo_146, E_X12_undo_149, E_X12_undo_150, E_X12_undo_153, E_X12_undo_154, E_X12_undo_155, E_X12_undo_158, E_X12_undo_159, E_X12_undo_160, E_X12_undo_161, E_X12_undo_164, E_X12_undo_167, E_X12_undo_168, E_X12_undo_170, E_X12_undo_172, E_X12_undo_175, E_X12_undo_176, E_X12_undo_179, E_X12_undo_180, E_X12_undo_181, E_X12_undo_184, E_X12_undo_185, E_X12_undo_186, E_X12_undo_187, E_X12_undo_188, E_X12_undo_191, E_X12_undo_192, E_X12_undo_193, E_X12_undo_196, E_X12_undo_197, E_X12_undo_198, E_X12_undo_199, E_X12_undo_200, E_X12_undo_203, E_X12_undo_204, E_X12_undo_205, E_X12_undo_208, E_X12_undo_209, E_X12_undo_210, E_X12_undo_211, E_X12_undo_212, E_X12_undo_215, E_X12_undo_216, E_X12_undo_217, E_X12_undo_220, E_X12_undo_221, E_X12_undo_222, E_X12_undo_223, E_X12_undo_224, E_X12_undo_227, E_X12_undo_228, E_X12_undo_229, E_X12_undo_232, E_X12_undo_233, E_X12_undo_234, E_X12_undo_235, E_X12_undo_236, E_X12_undo_239, E_X12_undo_240, E_X12_undo_241, E_X12_undo_244, E_X12_undo_245, E_X12_undo_246, E_X12_undo_247, E_X12_undo_248, E_X12_undo_251, E_X12_undo_252, E_X12_undo_253, E_X12_undo_256, E_X12_undo_257, E_X12_undo_258, E_X12_undo_259, E_X12_undo_262, E_X12_undo_265, E_X12_undo_266, E_X12_undo_268, E_X12_undo_269, E_X12_undo_272, E_X12_undo_273, E_X12_undo_276, E_X12_undo_277, E_X12_undo_278, E_X12_undo_281, E_X12_undo_282, E_X12_undo_283, E_X12_undo_284, E_X12_undo_285, E_X12_undo_288, E_X12_undo_289, E_X12_undo_290, E_X12_undo_293, E_X12_undo_294, E_X12_undo_295, E_X12_undo_296, E_X12_undo_297, E_X12_undo_300, E_X12_undo_301, E_X12_undo_302, E_X12_undo_305, E_X12_undo_306, E_X12_undo_307, E_X12_undo_308, E_X12_undo_311, E_X12_undo_314, E_X12_undo_315, E_X12_undo_317, E_X12_undo_319, E_X12_undo_322, E_X12_undo_323, E_X12_undo_326, E_X12_undo_327, E_X12_undo_328, E_X12_undo_331, E_X12_undo_332, E_X12_undo_333, E_X12_undo_334, E_X12_undo_335, E_X12_undo_338, E_X12_undo_339, E_X12_undo_340, E_X12_undo_343, E_X12_undo_344, E_X12_undo_345, E_X12_undo_346, E_X12_undo_349, E_X12_undo_352, E_X12_undo_353, E_X12_undo_356, rk_137, rg_137_48, rg_137_49, rg_137_50, rg_137_51, rg_137_52, rg_137_53, rg_137_54, rg_137_55, rp_137_14, rp_137_0, rp_137_1, rp_137_2, rp_137_38, rp_137_42, rp_137_43, h48, gsi_1, if_false, if_true, and_false, false_and, gnk_i, gnk_r, gnk_n, gi_1, Nat.reduceLT, if_true, if_false]
  rw [e0]
  refine un_0 (fun s1 h1 => ?_) 4 0 _ (by omega) (gCw_0 (fun b j q => absurd q.2 (Nat.not_lt_zero j)))
  simp only [E_X12_undo_91, E_X12_undo_92, gnk_i, gnk_r, gnk_n, gi_1, Nat.reduceLT, if_true, if_false]
  rw [← nI_0]
  refine un_1 (fun s2 h2 => ?_) 6 0 _ (by omega) (gCw_0 (fun b j q => absurd q.2 (Nat.not_lt_zero j)))
  simp only [E_X12_undo_141, E_X12_undo_142, gnk_i, gnk_r, gnk_n, gi_1, Nat.reduceLT, if_true, if_false]
  rw [← nI_0]
  refine un_2 (fun s3 h3 => ?_) 24 0 _ (by omega) (gCw_0 (fun b j q => absurd q.2 (Nat.not_lt_zero j)))
  simp only [E_X12_undo_167, E_X12_undo_168, gnk_i, gnk_r, gnk_n, gi_1, Nat.reduceLT, if_true, if_false]
  rw [← nI_0]
  refine un_3 (fun s4 h4 => ?_) 8 0 _ (by omega) (gCw_0 (fun b j q => absurd q.2 (Nat.not_lt_zero j)))
  simp only [E_X12_undo_265, E_X12_undo_266, gnk_i, gnk_r, gnk_n, gi_1, Nat.reduceLT, if_true, if_false]
  rw [← nI_0]
  refine un_4 (fun s5 h5 => ?_) 5 0 _ (by omega) (gCw_0 (fun b j q => absurd q.2 (Nat.not_lt_zero j)))
  simp only [E_X12_undo_314, E_X12_undo_315, gnk_i, gnk_r, gnk_n, gi_1, Nat.reduceLT, if_true, if_false]
  rw [← nI_0]
  refine un_5 (fun s6 h6 => ?_) 10 0 _ (by omega) (gCw_0 (fun b j q => absurd q.2 (Nat.not_lt_zero j)))
  have fr : ∀ b j, (¬ ((138 ≤ b ∧ b ≤ 147) ∨ (163 ≤ b ∧ b ≤ 169))) → s6.1 b j = (mUn0 s).1 b j := by
    intro b j q
    rw [gCw_nf h6 (by simp only [List.mem_cons, List.mem_nil_iff, or_false]; omega), gCw_nf h5 (by simp only [List.mem_cons, List.mem_nil_iff, or_false]; omega), gCw_nf h4 (by simp only [List.mem_cons, List.mem_nil_iff, or_false]; omega), gCw_nf h3 (by simp only [List.mem_cons, List.mem_nil_iff, or_false]; omega), gCw_nf h2 (by simp only [List.mem_cons, List.mem_nil_iff, or_false]; omega), gCw_nf h1 (by simp only [List.mem_cons, List.mem_nil_iff, or_false]; omega)]
  refine hq s6 ⟨by rw [h6.1, h5.1, h4.1, h3.1, h2.1, h1.1]; rfl, fun b j q => by rw [fr b j (fun e => q (Or.inr e)), mUn0_fr (fun e => q (Or.inl e))], ?_, ?_, ?_, ?_, ?_, ?_, ?_, ?_, ?_, ?_, ?_, ?_, ?_, ?_, ?_, ?_, ?_, ?_⟩
  · have a := mUn0_at (s := s)
    exact ⟨(fr _ _ (by omega)).trans a.1, (fr _ _ (by omega)).trans a.2.1, (fr _ _ (by omega)).trans a.2.2.1, (fr _ _ (by omega)).trans a.2.2.2.1, (fr _ _ (by omega)).trans a.2.2.2.2.1, (fr _ _ (by omega)).trans a.2.2.2.2.2.1, (fr _ _ (by omega)).trans a.2.2.2.2.2.2⟩
  · intro j hj
    rw [gCw_nf h6 (b := 138) (by decide), gCw_nf h5 (b := 138) (by decide), gCw_nf h4 (b := 138) (by decide), gCw_nf h3 (b := 138) (by decide), gCw_nf h2 (b := 138) (by decide), gCw_yf h1 (b := 138) (by decide) hj]
    show (mUn0 s).1 170 j = s.1 170 j
    rw [mUn0_fr (fun e => by omega)]
  · intro j hj
    rw [gCw_nf h6 (b := 139) (by decide), gCw_nf h5 (b := 139) (by decide), gCw_nf h4 (b := 139) (by decide), gCw_nf h3 (b := 139) (by decide), gCw_yf h2 (b := 139) (by decide) hj]
    show s1.1 171 j = s.1 171 j
    rw [gCw_nf h1 (b := 171) (by decide), mUn0_fr (fun e => by omega)]
  · intro j hj
    rw [gCw_nf h6 (b := 140) (by decide), gCw_nf h5 (b := 140) (by decide), gCw_nf h4 (b := 140) (by decide), gCw_nf h3 (b := 140) (by decide), gCw_yf h2 (b := 140) (by decide) hj]
    show s1.1 172 j = s.1 172 j
    rw [gCw_nf h1 (b := 172) (by decide), mUn0_fr (fun e => by omega)]
  · intro j hj
    rw [gCw_nf h6 (b := 141) (by decide), gCw_nf h5 (b := 141) (by decide), gCw_nf h4 (b := 141) (by decide), gCw_nf h3 (b := 141) (by decide), gCw_yf h2 (b := 141) (by decide) hj]
    show s1.1 173 j = s.1 173 j
    rw [gCw_nf h1 (b := 173) (by decide), mUn0_fr (fun e => by omega)]
  · intro j hj
    rw [gCw_nf h6 (b := 142) (by decide), gCw_nf h5 (b := 142) (by decide), gCw_nf h4 (b := 142) (by decide), gCw_yf h3 (b := 142) (by decide) hj]
    show s2.1 174 j = s.1 174 j
    rw [gCw_nf h2 (b := 174) (by decide), gCw_nf h1 (b := 174) (by decide), mUn0_fr (fun e => by omega)]
  · intro j hj
    rw [gCw_nf h6 (b := 143) (by decide), gCw_nf h5 (b := 143) (by decide), gCw_yf h4 (b := 143) (by decide) hj]
    show s3.1 175 j = s.1 175 j
    rw [gCw_nf h3 (b := 175) (by decide), gCw_nf h2 (b := 175) (by decide), gCw_nf h1 (b := 175) (by decide), mUn0_fr (fun e => by omega)]
  · intro j hj
    rw [gCw_nf h6 (b := 144) (by decide), gCw_nf h5 (b := 144) (by decide), gCw_yf h4 (b := 144) (by decide) hj]
    show s3.1 176 j = s.1 176 j
    rw [gCw_nf h3 (b := 176) (by decide), gCw_nf h2 (b := 176) (by decide), gCw_nf h1 (b := 176) (by decide), mUn0_fr (fun e => by omega)]
  · intro j hj
    rw [gCw_nf h6 (b := 145) (by decide), gCw_nf h5 (b := 145) (by decide), gCw_yf h4 (b := 145) (by decide) hj]
    show s3.1 177 j = s.1 177 j
    rw [gCw_nf h3 (b := 177) (by decide), gCw_nf h2 (b := 177) (by decide), gCw_nf h1 (b := 177) (by decide), mUn0_fr (fun e => by omega)]
  · intro j hj
    rw [gCw_nf h6 (b := 146) (by decide), gCw_nf h5 (b := 146) (by decide), gCw_yf h4 (b := 146) (by decide) hj]
    show s3.1 178 j = s.1 178 j
    rw [gCw_nf h3 (b := 178) (by decide), gCw_nf h2 (b := 178) (by decide), gCw_nf h1 (b := 178) (by decide), mUn0_fr (fun e => by omega)]
  · intro j hj
    rw [gCw_nf h6 (b := 147) (by decide), gCw_nf h5 (b := 147) (by decide), gCw_yf h4 (b := 147) (by decide) hj]
    show s3.1 179 j = s.1 179 j
    rw [gCw_nf h3 (b := 179) (by decide), gCw_nf h2 (b := 179) (by decide), gCw_nf h1 (b := 179) (by decide), mUn0_fr (fun e => by omega)]
  · intro j hj
    rw [gCw_nf h6 (b := 168) (by decide), gCw_nf h5 (b := 168) (by decide), gCw_yf h4 (b := 168) (by decide) hj]
    show s3.1 185 j = s.1 185 j
    rw [gCw_nf h3 (b := 185) (by decide), gCw_nf h2 (b := 185) (by decide), gCw_nf h1 (b := 185) (by decide), mUn0_fr (fun e => by omega)]
  · intro j hj
    rw [gCw_nf h6 (b := 169) (by decide), gCw_nf h5 (b := 169) (by decide), gCw_yf h4 (b := 169) (by decide) hj]
    show s3.1 186 j = s.1 186 j
    rw [gCw_nf h3 (b := 186) (by decide), gCw_nf h2 (b := 186) (by decide), gCw_nf h1 (b := 186) (by decide), mUn0_fr (fun e => by omega)]
  · intro j hj
    rw [gCw_nf h6 (b := 163) (by decide), gCw_yf h5 (b := 163) (by decide) hj]
    show s4.1 180 j = s.1 180 j
    rw [gCw_nf h4 (b := 180) (by decide), gCw_nf h3 (b := 180) (by decide), gCw_nf h2 (b := 180) (by decide), gCw_nf h1 (b := 180) (by decide), mUn0_fr (fun e => by omega)]
  · intro j hj
    rw [gCw_nf h6 (b := 164) (by decide), gCw_yf h5 (b := 164) (by decide) hj]
    show s4.1 181 j = s.1 181 j
    rw [gCw_nf h4 (b := 181) (by decide), gCw_nf h3 (b := 181) (by decide), gCw_nf h2 (b := 181) (by decide), gCw_nf h1 (b := 181) (by decide), mUn0_fr (fun e => by omega)]
  · intro j hj
    rw [gCw_nf h6 (b := 165) (by decide), gCw_yf h5 (b := 165) (by decide) hj]
    show s4.1 182 j = s.1 182 j
    rw [gCw_nf h4 (b := 182) (by decide), gCw_nf h3 (b := 182) (by decide), gCw_nf h2 (b := 182) (by decide), gCw_nf h1 (b := 182) (by decide), mUn0_fr (fun e => by omega)]
  · intro j hj
    rw [gCw_yf h6 (b := 166) (by decide) hj]
    show s5.1 183 j = s.1 183 j
    rw [gCw_nf h5 (b := 183) (by decide), gCw_nf h4 (b := 183) (by decide), gCw_nf h3 (b := 183) (by decide), gCw_nf h2 (b := 183) (by decide), gCw_nf h1 (b := 183) (by decide), mUn0_fr (fun e => by omega)]
  · intro j hj
    rw [gCw_yf h6 (b := 167) (by decide) hj]
    show s5.1 184 j = s.1 184 j
    rw [gCw_nf h5 (b := 184) (by decide), gCw_nf h4 (b := 184) (by decide), gCw_nf h3 (b := 184) (by decide), gCw_nf h2 (b := 184) (by decide), gCw_nf h1 (b := 184) (by decide), mUn0_fr (fun e => by omega)]
end
