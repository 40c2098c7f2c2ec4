/-! the law's loop: a step for each call -/
theorem gc_ex {w : Nat × (Nat → Int32)} {d mid pc : Nat} {L : gc_L} {st : List Value} {M : gc_M} {Q : Option Value → gc_M → Prop} (h : gc_X w d mid pc L st M Q) : ∃ r M', Q r M' := by
  obtain ⟨n, r, M', -, q⟩ := h
  exact ⟨r, M', q⟩
theorem lw_b {w : Nat × (Nat → Int32)} {c m : Nat} {Lc Lm : gc_L} {s : gm_S} {Q : Option Value → gc_M → Prop} (hb : gBoth w c m Lc Lm s) (hq : ∀ x s1, (∀ Q2 : Option Value → gc_M → Prop, (∀ s2, gInv s2 → Q2 (some (.int x)) (gm_m s2)) → gc_X w 40 m 0 Lm [] (gm_m s1) Q2) → Q (some (.int x)) (gm_m s1)) : gc_X w 40 c 0 Lc [] (gm_m s) Q := by
  unfold gBoth at hb
  refine gc_Ev.mono hb (fun r M h => ?_)
  obtain ⟨s1, e, h1⟩ := h
  subst e
  obtain ⟨r', M', s2, -, -, ⟨x, ex⟩, -⟩ := gc_ex h1
  subst ex
  refine hq x s1 (fun Q2 h2 => gc_Ev.mono h1 (fun r2 M2 h3 => ?_))
  obtain ⟨s3, e3, e4, -, h5⟩ := h3
  subst e3
  subst e4
  exact h2 s3 h5
theorem lw_l {w : Nat × (Nat → Int32)} {c m : Nat} {Lc Lm : gc_L} {s : gm_S} {Q : Option Value → gc_M → Prop} (hb : gBothL w c m Lc Lm s) (hq : ∀ x s1, (∀ Q2 : Option Value → gc_M → Prop, (∀ s2, gInv s2 → Q2 (some (.long x)) (gm_m s2)) → gc_X w 40 m 0 Lm [] (gm_m s1) Q2) → Q (some (.long x)) (gm_m s1)) : gc_X w 40 c 0 Lc [] (gm_m s) Q := by
  unfold gBothL at hb
  refine gc_Ev.mono hb (fun r M h => ?_)
  obtain ⟨s1, e, h1⟩ := h
  subst e
  obtain ⟨r', M', s2, -, -, ⟨x, ex⟩, -⟩ := gc_ex h1
  subst ex
  refine hq x s1 (fun Q2 h2 => gc_Ev.mono h1 (fun r2 M2 h3 => ?_))
  obtain ⟨s3, e3, e4, -, h5⟩ := h3
  subst e3
  subst e4
  exact h2 s3 h5
theorem lg_cmp_self (x : Int64) : lg_cmp x x = 0 := by
  unfold lg_cmp
  simp
section
variable {w : Nat × (Nat → Int32)} {s : gm_S} {i : Nat} {Q : Option Value → gc_M → Prop}
def lwL (i : Nat) : gc_L := [some (.ref 1000040), some (.ref 0), some (.ref 137), some (.int (nI i))]
theorem lw_crane (h : gInv s) (hi : i + 6 ≤ w.1) (hw : w.1 < 2 ^ 31) (hq : ∀ s', gInv s' → gc_X w 41 217 1205 (lwL i) [] (gm_m s') Q) : gc_X w 41 217 176 (lwL i) [] (gm_m s) Q := by
  have a1 : nI i + 1 = nI (i + 1) := nI_add i 1
  have a2 : nI i + 2 = nI (i + 2) := nI_add i 2
  have a3 : nI i + 3 = nI (i + 3) := nI_add i 3
  have a4 : nI i + 4 = nI (i + 4) := nI_add i 4
  have a5 : nI i + 5 = nI (i + 5) := nI_add i 5
  have v : ∀ k, k < 6 → vp_in (nI (i + k)) w.1 := fun k hk => vp_in_nI (by omega) hw
  have u : ∀ k, k < 6 → (nI (i + k)).toNatClampNeg = i + k := fun k hk => nI_clamp (by omega)
  have v1 := v 1 (by omega)
  have v2 := v 2 (by omega)
  have v3 := v 3 (by omega)
  have v4 := v 4 (by omega)
  have v5 := v 5 (by omega)
  have u1 := u 1 (by omega)
  have u2 := u 2 (by omega)
  have u3 := u 3 (by omega)
  have u4 := u 4 (by omega)
  have u5 := u 5 (by omega)
  unfold lwL at hq ⊢
  simp only [E_L_law_176, E_L_law_177, E_L_law_178, E_L_law_179, E_L_law_180, E_L_law_181, E_L_law_182, E_L_law_183, E_L_law_184, E_L_law_185, E_L_law_186, E_L_law_187, E_L_law_190, E_L_law_191, E_L_law_192, E_L_law_193, E_L_law_194, E_L_law_195, E_L_law_196, E_L_law_197, E_L_law_198, E_L_law_199, E_L_law_200, E_L_law_201, E_L_law_204, E_L_law_207, E_L_law_208, a1, a2, a3, a4, a5, v1, v2, v3, v4, v5, u1, u2, u3, u4, u5, rc_0, List.map_nil, List.map_cons, List.sum_cons, List.sum_nil, gcat_i, gcat_r, gcat_l, Nat.reduceAdd, Nat.reduceLeDiff, Nat.zero_le, Option.toList, List.cons_append, List.nil_append, gnk_i, gnk_r, gnk_n, gi_1, Nat.reduceLT, if_true, if_false]
  refine lw_b (i_crane h) (fun x s1 hm => ?_)
  simp only [E_L_law_176, E_L_law_177, E_L_law_178, E_L_law_179, E_L_law_180, E_L_law_181, E_L_law_182, E_L_law_183, E_L_law_184, E_L_law_185, E_L_law_186, E_L_law_187, E_L_law_190, E_L_law_191, E_L_law_192, E_L_law_193, E_L_law_194, E_L_law_195, E_L_law_196, E_L_law_197, E_L_law_198, E_L_law_199, E_L_law_200, E_L_law_201, E_L_law_204, E_L_law_207, E_L_law_208, a1, a2, a3, a4, a5, v1, v2, v3, v4, v5, u1, u2, u3, u4, u5, rc_137, List.map_nil, List.map_cons, List.sum_cons, List.sum_nil, gcat_i, gcat_r, gcat_l, Nat.reduceAdd, Nat.reduceLeDiff, Nat.zero_le, Option.toList, List.cons_append, List.nil_append, gnk_i, gnk_r, gnk_n, gi_1, Nat.reduceLT, if_true, if_false]
  refine hm _ (fun s2 h2 => ?_)
  simp only [E_L_law_176, E_L_law_177, E_L_law_178, E_L_law_179, E_L_law_180, E_L_law_181, E_L_law_182, E_L_law_183, E_L_law_184, E_L_law_185, E_L_law_186, E_L_law_187, E_L_law_190, E_L_law_191, E_L_law_192, E_L_law_193, E_L_law_194, E_L_law_195, E_L_law_196, E_L_law_197, E_L_law_198, E_L_law_199, E_L_law_200, E_L_law_201, E_L_law_204, E_L_law_207, E_L_law_208, lg_cmp_self, List.map_nil, List.map_cons, List.sum_cons, List.sum_nil, gcat_i, gcat_r, gcat_l, Nat.reduceAdd, Nat.reduceLeDiff, Nat.zero_le, Option.toList, List.cons_append, List.nil_append, gnk_i, gnk_r, gnk_n, gi_1, Nat.reduceLT, if_true, if_false]
  exact hq s2 h2
theorem lw_of (h : gInv s) (hi : i + 6 ≤ w.1) (hw : w.1 < 2 ^ 31) (hq : ∀ s', gInv s' → gc_X w 41 217 1205 (lwL i) [] (gm_m s') Q) : gc_X w 41 217 209 (lwL i) [] (gm_m s) Q := by
  have a1 : nI i + 1 = nI (i + 1) := nI_add i 1
  have a2 : nI i + 2 = nI (i + 2) := nI_add i 2
  have a3 : nI i + 3 = nI (i + 3) := nI_add i 3
  have a4 : nI i + 4 = nI (i + 4) := nI_add i 4
  have a5 : nI i + 5 = nI (i + 5) := nI_add i 5
  have v : ∀ k, k < 6 → vp_in (nI (i + k)) w.1 := fun k hk => vp_in_nI (by omega) hw
  have u : ∀ k, k < 6 → (nI (i + k)).toNatClampNeg = i + k := fun k hk => nI_clamp (by omega)
  have v1 := v 1 (by omega)
  have v2 := v 2 (by omega)
  have v3 := v 3 (by omega)
  have v4 := v 4 (by omega)
  have v5 := v 5 (by omega)
  have u1 := u 1 (by omega)
  have u2 := u 2 (by omega)
  have u3 := u 3 (by omega)
  have u4 := u 4 (by omega)
  have u5 := u 5 (by omega)
  unfold lwL at hq ⊢
  simp only [E_L_law_209, E_L_law_210, E_L_law_211, E_L_law_212, E_L_law_213, E_L_law_214, E_L_law_215, E_L_law_216, E_L_law_217, E_L_law_218, E_L_law_219, E_L_law_220, E_L_law_223, E_L_law_224, E_L_law_225, E_L_law_226, E_L_law_227, E_L_law_228, E_L_law_229, E_L_law_230, E_L_law_231, E_L_law_232, E_L_law_233, E_L_law_234, E_L_law_237, E_L_law_240, E_L_law_241, a1, a2, a3, a4, a5, v1, v2, v3, v4, v5, u1, u2, u3, u4, u5, rc_0, List.map_nil, List.map_cons, List.sum_cons, List.sum_nil, gcat_i, gcat_r, gcat_l, Nat.reduceAdd, Nat.reduceLeDiff, Nat.zero_le, Option.toList, List.cons_append, List.nil_append, gnk_i, gnk_r, gnk_n, gi_1, Nat.reduceLT, if_true, if_false]
  refine lw_b (i_of h) (fun x s1 hm => ?_)
  simp only [E_L_law_209, E_L_law_210, E_L_law_211, E_L_law_212, E_L_law_213, E_L_law_214, E_L_law_215, E_L_law_216, E_L_law_217, E_L_law_218, E_L_law_219, E_L_law_220, E_L_law_223, E_L_law_224, E_L_law_225, E_L_law_226, E_L_law_227, E_L_law_228, E_L_law_229, E_L_law_230, E_L_law_231, E_L_law_232, E_L_law_233, E_L_law_234, E_L_law_237, E_L_law_240, E_L_law_241, a1, a2, a3, a4, a5, v1, v2, v3, v4, v5, u1, u2, u3, u4, u5, rc_137, List.map_nil, List.map_cons, List.sum_cons, List.sum_nil, gcat_i, gcat_r, gcat_l, Nat.reduceAdd, Nat.reduceLeDiff, Nat.zero_le, Option.toList, List.cons_append, List.nil_append, gnk_i, gnk_r, gnk_n, gi_1, Nat.reduceLT, if_true, if_false]
  refine hm _ (fun s2 h2 => ?_)
  simp only [E_L_law_209, E_L_law_210, E_L_law_211, E_L_law_212, E_L_law_213, E_L_law_214, E_L_law_215, E_L_law_216, E_L_law_217, E_L_law_218, E_L_law_219, E_L_law_220, E_L_law_223, E_L_law_224, E_L_law_225, E_L_law_226, E_L_law_227, E_L_law_228, E_L_law_229, E_L_law_230, E_L_law_231, E_L_law_232, E_L_law_233, E_L_law_234, E_L_law_237, E_L_law_240, E_L_law_241, lg_cmp_self, List.map_nil, List.map_cons, List.sum_cons, List.sum_nil, gcat_i, gcat_r, gcat_l, Nat.reduceAdd, Nat.reduceLeDiff, Nat.zero_le, Option.toList, List.cons_append, List.nil_append, gnk_i, gnk_r, gnk_n, gi_1, Nat.reduceLT, if_true, if_false]
  exact hq s2 h2
theorem lw_thing (h : gInv s) (hi : i + 6 ≤ w.1) (hw : w.1 < 2 ^ 31) (hq : ∀ s', gInv s' → gc_X w 41 217 1205 (lwL i) [] (gm_m s') Q) : gc_X w 41 217 242 (lwL i) [] (gm_m s) Q := by
  have a1 : nI i + 1 = nI (i + 1) := nI_add i 1
  have a2 : nI i + 2 = nI (i + 2) := nI_add i 2
  have a3 : nI i + 3 = nI (i + 3) := nI_add i 3
  have a4 : nI i + 4 = nI (i + 4) := nI_add i 4
  have a5 : nI i + 5 = nI (i + 5) := nI_add i 5
  have v : ∀ k, k < 6 → vp_in (nI (i + k)) w.1 := fun k hk => vp_in_nI (by omega) hw
  have u : ∀ k, k < 6 → (nI (i + k)).toNatClampNeg = i + k := fun k hk => nI_clamp (by omega)
  have v1 := v 1 (by omega)
  have v2 := v 2 (by omega)
  have v3 := v 3 (by omega)
  have v4 := v 4 (by omega)
  have v5 := v 5 (by omega)
  have u1 := u 1 (by omega)
  have u2 := u 2 (by omega)
  have u3 := u 3 (by omega)
  have u4 := u 4 (by omega)
  have u5 := u 5 (by omega)
  unfold lwL at hq ⊢
  simp only [E_L_law_242, E_L_law_243, E_L_law_244, E_L_law_245, E_L_law_246, E_L_law_247, E_L_law_248, E_L_law_249, E_L_law_250, E_L_law_251, E_L_law_252, E_L_law_253, E_L_law_256, E_L_law_257, E_L_law_258, E_L_law_259, E_L_law_260, E_L_law_261, E_L_law_262, E_L_law_263, E_L_law_264, E_L_law_265, E_L_law_266, E_L_law_267, E_L_law_270, E_L_law_273, E_L_law_274, a1, a2, a3, a4, a5, v1, v2, v3, v4, v5, u1, u2, u3, u4, u5, rc_0, List.map_nil, List.map_cons, List.sum_cons, List.sum_nil, gcat_i, gcat_r, gcat_l, Nat.reduceAdd, Nat.reduceLeDiff, Nat.zero_le, Option.toList, List.cons_append, List.nil_append, gnk_i, gnk_r, gnk_n, gi_1, Nat.reduceLT, if_true, if_false]
  refine lw_b (i_thing h) (fun x s1 hm => ?_)
  simp only [E_L_law_242, E_L_law_243, E_L_law_244, E_L_law_245, E_L_law_246, E_L_law_247, E_L_law_248, E_L_law_249, E_L_law_250, E_L_law_251, E_L_law_252, E_L_law_253, E_L_law_256, E_L_law_257, E_L_law_258, E_L_law_259, E_L_law_260, E_L_law_261, E_L_law_262, E_L_law_263, E_L_law_264, E_L_law_265, E_L_law_266, E_L_law_267, E_L_law_270, E_L_law_273, E_L_law_274, a1, a2, a3, a4, a5, v1, v2, v3, v4, v5, u1, u2, u3, u4, u5, rc_137, List.map_nil, List.map_cons, List.sum_cons, List.sum_nil, gcat_i, gcat_r, gcat_l, Nat.reduceAdd, Nat.reduceLeDiff, Nat.zero_le, Option.toList, List.cons_append, List.nil_append, gnk_i, gnk_r, gnk_n, gi_1, Nat.reduceLT, if_true, if_false]
  refine hm _ (fun s2 h2 => ?_)
  simp only [E_L_law_242, E_L_law_243, E_L_law_244, E_L_law_245, E_L_law_246, E_L_law_247, E_L_law_248, E_L_law_249, E_L_law_250, E_L_law_251, E_L_law_252, E_L_law_253, E_L_law_256, E_L_law_257, E_L_law_258, E_L_law_259, E_L_law_260, E_L_law_261, E_L_law_262, E_L_law_263, E_L_law_264, E_L_law_265, E_L_law_266, E_L_law_267, E_L_law_270, E_L_law_273, E_L_law_274, lg_cmp_self, List.map_nil, List.map_cons, List.sum_cons, List.sum_nil, gcat_i, gcat_r, gcat_l, Nat.reduceAdd, Nat.reduceLeDiff, Nat.zero_le, Option.toList, List.cons_append, List.nil_append, gnk_i, gnk_r, gnk_n, gi_1, Nat.reduceLT, if_true, if_false]
  exact hq s2 h2
theorem lw_load (h : gInv s) (hi : i + 6 ≤ w.1) (hw : w.1 < 2 ^ 31) (hq : ∀ s', gInv s' → gc_X w 41 217 1205 (lwL i) [] (gm_m s') Q) : gc_X w 41 217 275 (lwL i) [] (gm_m s) Q := by
  have a1 : nI i + 1 = nI (i + 1) := nI_add i 1
  have a2 : nI i + 2 = nI (i + 2) := nI_add i 2
  have a3 : nI i + 3 = nI (i + 3) := nI_add i 3
  have a4 : nI i + 4 = nI (i + 4) := nI_add i 4
  have a5 : nI i + 5 = nI (i + 5) := nI_add i 5
  have v : ∀ k, k < 6 → vp_in (nI (i + k)) w.1 := fun k hk => vp_in_nI (by omega) hw
  have u : ∀ k, k < 6 → (nI (i + k)).toNatClampNeg = i + k := fun k hk => nI_clamp (by omega)
  have v1 := v 1 (by omega)
  have v2 := v 2 (by omega)
  have v3 := v 3 (by omega)
  have v4 := v 4 (by omega)
  have v5 := v 5 (by omega)
  have u1 := u 1 (by omega)
  have u2 := u 2 (by omega)
  have u3 := u 3 (by omega)
  have u4 := u 4 (by omega)
  have u5 := u 5 (by omega)
  unfold lwL at hq ⊢
  simp only [E_L_law_275, E_L_law_276, E_L_law_277, E_L_law_278, E_L_law_279, E_L_law_280, E_L_law_281, E_L_law_282, E_L_law_283, E_L_law_284, E_L_law_285, E_L_law_286, E_L_law_289, E_L_law_290, E_L_law_291, E_L_law_292, E_L_law_293, E_L_law_294, E_L_law_295, E_L_law_296, E_L_law_297, E_L_law_298, E_L_law_299, E_L_law_300, E_L_law_303, E_L_law_306, E_L_law_307, a1, a2, a3, a4, a5, v1, v2, v3, v4, v5, u1, u2, u3, u4, u5, rc_0, List.map_nil, List.map_cons, List.sum_cons, List.sum_nil, gcat_i, gcat_r, gcat_l, Nat.reduceAdd, Nat.reduceLeDiff, Nat.zero_le, Option.toList, List.cons_append, List.nil_append, gnk_i, gnk_r, gnk_n, gi_1, Nat.reduceLT, if_true, if_false]
  refine lw_b (i_load h) (fun x s1 hm => ?_)
  simp only [E_L_law_275, E_L_law_276, E_L_law_277, E_L_law_278, E_L_law_279, E_L_law_280, E_L_law_281, E_L_law_282, E_L_law_283, E_L_law_284, E_L_law_285, E_L_law_286, E_L_law_289, E_L_law_290, E_L_law_291, E_L_law_292, E_L_law_293, E_L_law_294, E_L_law_295, E_L_law_296, E_L_law_297, E_L_law_298, E_L_law_299, E_L_law_300, E_L_law_303, E_L_law_306, E_L_law_307, a1, a2, a3, a4, a5, v1, v2, v3, v4, v5, u1, u2, u3, u4, u5, rc_137, List.map_nil, List.map_cons, List.sum_cons, List.sum_nil, gcat_i, gcat_r, gcat_l, Nat.reduceAdd, Nat.reduceLeDiff, Nat.zero_le, Option.toList, List.cons_append, List.nil_append, gnk_i, gnk_r, gnk_n, gi_1, Nat.reduceLT, if_true, if_false]
  refine hm _ (fun s2 h2 => ?_)
  simp only [E_L_law_275, E_L_law_276, E_L_law_277, E_L_law_278, E_L_law_279, E_L_law_280, E_L_law_281, E_L_law_282, E_L_law_283, E_L_law_284, E_L_law_285, E_L_law_286, E_L_law_289, E_L_law_290, E_L_law_291, E_L_law_292, E_L_law_293, E_L_law_294, E_L_law_295, E_L_law_296, E_L_law_297, E_L_law_298, E_L_law_299, E_L_law_300, E_L_law_303, E_L_law_306, E_L_law_307, lg_cmp_self, List.map_nil, List.map_cons, List.sum_cons, List.sum_nil, gcat_i, gcat_r, gcat_l, Nat.reduceAdd, Nat.reduceLeDiff, Nat.zero_le, Option.toList, List.cons_append, List.nil_append, gnk_i, gnk_r, gnk_n, gi_1, Nat.reduceLT, if_true, if_false]
  exact hq s2 h2
theorem lw_send (h : gInv s) (hi : i + 6 ≤ w.1) (hw : w.1 < 2 ^ 31) (hq : ∀ s', gInv s' → gc_X w 41 217 1205 (lwL i) [] (gm_m s') Q) : gc_X w 41 217 308 (lwL i) [] (gm_m s) Q := by
  have a1 : nI i + 1 = nI (i + 1) := nI_add i 1
  have a2 : nI i + 2 = nI (i + 2) := nI_add i 2
  have a3 : nI i + 3 = nI (i + 3) := nI_add i 3
  have a4 : nI i + 4 = nI (i + 4) := nI_add i 4
  have a5 : nI i + 5 = nI (i + 5) := nI_add i 5
  have v : ∀ k, k < 6 → vp_in (nI (i + k)) w.1 := fun k hk => vp_in_nI (by omega) hw
  have u : ∀ k, k < 6 → (nI (i + k)).toNatClampNeg = i + k := fun k hk => nI_clamp (by omega)
  have v1 := v 1 (by omega)
  have v2 := v 2 (by omega)
  have v3 := v 3 (by omega)
  have v4 := v 4 (by omega)
  have v5 := v 5 (by omega)
  have u1 := u 1 (by omega)
  have u2 := u 2 (by omega)
  have u3 := u 3 (by omega)
  have u4 := u 4 (by omega)
  have u5 := u 5 (by omega)
  unfold lwL at hq ⊢
  simp only [E_L_law_308, E_L_law_309, E_L_law_310, E_L_law_311, E_L_law_312, E_L_law_313, E_L_law_314, E_L_law_315, E_L_law_316, E_L_law_317, E_L_law_318, E_L_law_319, E_L_law_322, E_L_law_323, E_L_law_324, E_L_law_325, E_L_law_326, E_L_law_327, E_L_law_328, E_L_law_329, E_L_law_330, E_L_law_331, E_L_law_332, E_L_law_333, E_L_law_336, E_L_law_339, E_L_law_340, a1, a2, a3, a4, a5, v1, v2, v3, v4, v5, u1, u2, u3, u4, u5, rc_0, List.map_nil, List.map_cons, List.sum_cons, List.sum_nil, gcat_i, gcat_r, gcat_l, Nat.reduceAdd, Nat.reduceLeDiff, Nat.zero_le, Option.toList, List.cons_append, List.nil_append, gnk_i, gnk_r, gnk_n, gi_1, Nat.reduceLT, if_true, if_false]
  refine lw_b (i_send h) (fun x s1 hm => ?_)
  simp only [E_L_law_308, E_L_law_309, E_L_law_310, E_L_law_311, E_L_law_312, E_L_law_313, E_L_law_314, E_L_law_315, E_L_law_316, E_L_law_317, E_L_law_318, E_L_law_319, E_L_law_322, E_L_law_323, E_L_law_324, E_L_law_325, E_L_law_326, E_L_law_327, E_L_law_328, E_L_law_329, E_L_law_330, E_L_law_331, E_L_law_332, E_L_law_333, E_L_law_336, E_L_law_339, E_L_law_340, a1, a2, a3, a4, a5, v1, v2, v3, v4, v5, u1, u2, u3, u4, u5, rc_137, List.map_nil, List.map_cons, List.sum_cons, List.sum_nil, gcat_i, gcat_r, gcat_l, Nat.reduceAdd, Nat.reduceLeDiff, Nat.zero_le, Option.toList, List.cons_append, List.nil_append, gnk_i, gnk_r, gnk_n, gi_1, Nat.reduceLT, if_true, if_false]
  refine hm _ (fun s2 h2 => ?_)
  simp only [E_L_law_308, E_L_law_309, E_L_law_310, E_L_law_311, E_L_law_312, E_L_law_313, E_L_law_314, E_L_law_315, E_L_law_316, E_L_law_317, E_L_law_318, E_L_law_319, E_L_law_322, E_L_law_323, E_L_law_324, E_L_law_325, E_L_law_326, E_L_law_327, E_L_law_328, E_L_law_329, E_L_law_330, E_L_law_331, E_L_law_332, E_L_law_333, E_L_law_336, E_L_law_339, E_L_law_340, lg_cmp_self, List.map_nil, List.map_cons, List.sum_cons, List.sum_nil, gcat_i, gcat_r, gcat_l, Nat.reduceAdd, Nat.reduceLeDiff, Nat.zero_le, Option.toList, List.cons_append, List.nil_append, gnk_i, gnk_r, gnk_n, gi_1, Nat.reduceLT, if_true, if_false]
  exact hq s2 h2
theorem lw_wind (h : gInv s) (hi : i + 6 ≤ w.1) (hw : w.1 < 2 ^ 31) (hq : ∀ s', gInv s' → gc_X w 41 217 1205 (lwL i) [] (gm_m s') Q) : gc_X w 41 217 341 (lwL i) [] (gm_m s) Q := by
  have a1 : nI i + 1 = nI (i + 1) := nI_add i 1
  have a2 : nI i + 2 = nI (i + 2) := nI_add i 2
  have a3 : nI i + 3 = nI (i + 3) := nI_add i 3
  have a4 : nI i + 4 = nI (i + 4) := nI_add i 4
  have a5 : nI i + 5 = nI (i + 5) := nI_add i 5
  have v : ∀ k, k < 6 → vp_in (nI (i + k)) w.1 := fun k hk => vp_in_nI (by omega) hw
  have u : ∀ k, k < 6 → (nI (i + k)).toNatClampNeg = i + k := fun k hk => nI_clamp (by omega)
  have v1 := v 1 (by omega)
  have v2 := v 2 (by omega)
  have v3 := v 3 (by omega)
  have v4 := v 4 (by omega)
  have v5 := v 5 (by omega)
  have u1 := u 1 (by omega)
  have u2 := u 2 (by omega)
  have u3 := u 3 (by omega)
  have u4 := u 4 (by omega)
  have u5 := u 5 (by omega)
  unfold lwL at hq ⊢
  simp only [E_L_law_341, E_L_law_342, E_L_law_343, E_L_law_344, E_L_law_345, E_L_law_346, E_L_law_347, E_L_law_348, E_L_law_349, E_L_law_350, E_L_law_351, E_L_law_352, E_L_law_355, E_L_law_356, E_L_law_357, E_L_law_358, E_L_law_359, E_L_law_360, E_L_law_361, E_L_law_362, E_L_law_363, E_L_law_364, E_L_law_365, E_L_law_366, E_L_law_369, E_L_law_372, E_L_law_373, a1, a2, a3, a4, a5, v1, v2, v3, v4, v5, u1, u2, u3, u4, u5, rc_0, List.map_nil, List.map_cons, List.sum_cons, List.sum_nil, gcat_i, gcat_r, gcat_l, Nat.reduceAdd, Nat.reduceLeDiff, Nat.zero_le, Option.toList, List.cons_append, List.nil_append, gnk_i, gnk_r, gnk_n, gi_1, Nat.reduceLT, if_true, if_false]
  refine lw_b (i_wind h) (fun x s1 hm => ?_)
  simp only [E_L_law_341, E_L_law_342, E_L_law_343, E_L_law_344, E_L_law_345, E_L_law_346, E_L_law_347, E_L_law_348, E_L_law_349, E_L_law_350, E_L_law_351, E_L_law_352, E_L_law_355, E_L_law_356, E_L_law_357, E_L_law_358, E_L_law_359, E_L_law_360, E_L_law_361, E_L_law_362, E_L_law_363, E_L_law_364, E_L_law_365, E_L_law_366, E_L_law_369, E_L_law_372, E_L_law_373, a1, a2, a3, a4, a5, v1, v2, v3, v4, v5, u1, u2, u3, u4, u5, rc_137, List.map_nil, List.map_cons, List.sum_cons, List.sum_nil, gcat_i, gcat_r, gcat_l, Nat.reduceAdd, Nat.reduceLeDiff, Nat.zero_le, Option.toList, List.cons_append, List.nil_append, gnk_i, gnk_r, gnk_n, gi_1, Nat.reduceLT, if_true, if_false]
  refine hm _ (fun s2 h2 => ?_)
  simp only [E_L_law_341, E_L_law_342, E_L_law_343, E_L_law_344, E_L_law_345, E_L_law_346, E_L_law_347, E_L_law_348, E_L_law_349, E_L_law_350, E_L_law_351, E_L_law_352, E_L_law_355, E_L_law_356, E_L_law_357, E_L_law_358, E_L_law_359, E_L_law_360, E_L_law_361, E_L_law_362, E_L_law_363, E_L_law_364, E_L_law_365, E_L_law_366, E_L_law_369, E_L_law_372, E_L_law_373, lg_cmp_self, List.map_nil, List.map_cons, List.sum_cons, List.sum_nil, gcat_i, gcat_r, gcat_l, Nat.reduceAdd, Nat.reduceLeDiff, Nat.zero_le, Option.toList, List.cons_append, List.nil_append, gnk_i, gnk_r, gnk_n, gi_1, Nat.reduceLT, if_true, if_false]
  exact hq s2 h2
theorem lw_row (h : gInv s) (hi : i + 6 ≤ w.1) (hw : w.1 < 2 ^ 31) (hq : ∀ s', gInv s' → gc_X w 41 217 1205 (lwL i) [] (gm_m s') Q) : gc_X w 41 217 374 (lwL i) [] (gm_m s) Q := by
  have a1 : nI i + 1 = nI (i + 1) := nI_add i 1
  have a2 : nI i + 2 = nI (i + 2) := nI_add i 2
  have a3 : nI i + 3 = nI (i + 3) := nI_add i 3
  have a4 : nI i + 4 = nI (i + 4) := nI_add i 4
  have a5 : nI i + 5 = nI (i + 5) := nI_add i 5
  have v : ∀ k, k < 6 → vp_in (nI (i + k)) w.1 := fun k hk => vp_in_nI (by omega) hw
  have u : ∀ k, k < 6 → (nI (i + k)).toNatClampNeg = i + k := fun k hk => nI_clamp (by omega)
  have v1 := v 1 (by omega)
  have v2 := v 2 (by omega)
  have v3 := v 3 (by omega)
  have v4 := v 4 (by omega)
  have v5 := v 5 (by omega)
  have u1 := u 1 (by omega)
  have u2 := u 2 (by omega)
  have u3 := u 3 (by omega)
  have u4 := u 4 (by omega)
  have u5 := u 5 (by omega)
  unfold lwL at hq ⊢
  simp only [E_L_law_374, E_L_law_375, E_L_law_376, E_L_law_377, E_L_law_378, E_L_law_379, E_L_law_380, E_L_law_381, E_L_law_382, E_L_law_383, E_L_law_384, E_L_law_385, E_L_law_386, E_L_law_387, E_L_law_388, E_L_law_389, E_L_law_390, E_L_law_393, E_L_law_394, E_L_law_395, E_L_law_396, E_L_law_397, E_L_law_398, E_L_law_399, E_L_law_400, E_L_law_401, E_L_law_402, E_L_law_403, E_L_law_404, E_L_law_405, E_L_law_406, E_L_law_407, E_L_law_408, E_L_law_409, E_L_law_412, E_L_law_415, E_L_law_416, a1, a2, a3, a4, a5, v1, v2, v3, v4, v5, u1, u2, u3, u4, u5, rc_0, List.map_nil, List.map_cons, List.sum_cons, List.sum_nil, gcat_i, gcat_r, gcat_l, Nat.reduceAdd, Nat.reduceLeDiff, Nat.zero_le, Option.toList, List.cons_append, List.nil_append, gnk_i, gnk_r, gnk_n, gi_1, Nat.reduceLT, if_true, if_false]
  refine lw_b (i_row h) (fun x s1 hm => ?_)
  simp only [E_L_law_374, E_L_law_375, E_L_law_376, E_L_law_377, E_L_law_378, E_L_law_379, E_L_law_380, E_L_law_381, E_L_law_382, E_L_law_383, E_L_law_384, E_L_law_385, E_L_law_386, E_L_law_387, E_L_law_388, E_L_law_389, E_L_law_390, E_L_law_393, E_L_law_394, E_L_law_395, E_L_law_396, E_L_law_397, E_L_law_398, E_L_law_399, E_L_law_400, E_L_law_401, E_L_law_402, E_L_law_403, E_L_law_404, E_L_law_405, E_L_law_406, E_L_law_407, E_L_law_408, E_L_law_409, E_L_law_412, E_L_law_415, E_L_law_416, a1, a2, a3, a4, a5, v1, v2, v3, v4, v5, u1, u2, u3, u4, u5, rc_137, List.map_nil, List.map_cons, List.sum_cons, List.sum_nil, gcat_i, gcat_r, gcat_l, Nat.reduceAdd, Nat.reduceLeDiff, Nat.zero_le, Option.toList, List.cons_append, List.nil_append, gnk_i, gnk_r, gnk_n, gi_1, Nat.reduceLT, if_true, if_false]
  refine hm _ (fun s2 h2 => ?_)
  simp only [E_L_law_374, E_L_law_375, E_L_law_376, E_L_law_377, E_L_law_378, E_L_law_379, E_L_law_380, E_L_law_381, E_L_law_382, E_L_law_383, E_L_law_384, E_L_law_385, E_L_law_386, E_L_law_387, E_L_law_388, E_L_law_389, E_L_law_390, E_L_law_393, E_L_law_394, E_L_law_395, E_L_law_396, E_L_law_397, E_L_law_398, E_L_law_399, E_L_law_400, E_L_law_401, E_L_law_402, E_L_law_403, E_L_law_404, E_L_law_405, E_L_law_406, E_L_law_407, E_L_law_408, E_L_law_409, E_L_law_412, E_L_law_415, E_L_law_416, lg_cmp_self, List.map_nil, List.map_cons, List.sum_cons, List.sum_nil, gcat_i, gcat_r, gcat_l, Nat.reduceAdd, Nat.reduceLeDiff, Nat.zero_le, Option.toList, List.cons_append, List.nil_append, gnk_i, gnk_r, gnk_n, gi_1, Nat.reduceLT, if_true, if_false]
  exact hq s2 h2
theorem lw_feed (h : gInv s) (hi : i + 6 ≤ w.1) (hw : w.1 < 2 ^ 31) (hq : ∀ s', gInv s' → gc_X w 41 217 1205 (lwL i) [] (gm_m s') Q) : gc_X w 41 217 417 (lwL i) [] (gm_m s) Q := by
  have a1 : nI i + 1 = nI (i + 1) := nI_add i 1
  have a2 : nI i + 2 = nI (i + 2) := nI_add i 2
  have a3 : nI i + 3 = nI (i + 3) := nI_add i 3
  have a4 : nI i + 4 = nI (i + 4) := nI_add i 4
  have a5 : nI i + 5 = nI (i + 5) := nI_add i 5
  have v : ∀ k, k < 6 → vp_in (nI (i + k)) w.1 := fun k hk => vp_in_nI (by omega) hw
  have u : ∀ k, k < 6 → (nI (i + k)).toNatClampNeg = i + k := fun k hk => nI_clamp (by omega)
  have v1 := v 1 (by omega)
  have v2 := v 2 (by omega)
  have v3 := v 3 (by omega)
  have v4 := v 4 (by omega)
  have v5 := v 5 (by omega)
  have u1 := u 1 (by omega)
  have u2 := u 2 (by omega)
  have u3 := u 3 (by omega)
  have u4 := u 4 (by omega)
  have u5 := u 5 (by omega)
  unfold lwL at hq ⊢
  simp only [E_L_law_417, E_L_law_418, E_L_law_419, E_L_law_420, E_L_law_421, E_L_law_422, E_L_law_423, E_L_law_426, E_L_law_427, E_L_law_428, E_L_law_429, E_L_law_430, E_L_law_431, E_L_law_432, E_L_law_435, E_L_law_438, E_L_law_439, a1, a2, a3, a4, a5, v1, v2, v3, v4, v5, u1, u2, u3, u4, u5, rc_0, List.map_nil, List.map_cons, List.sum_cons, List.sum_nil, gcat_i, gcat_r, gcat_l, Nat.reduceAdd, Nat.reduceLeDiff, Nat.zero_le, Option.toList, List.cons_append, List.nil_append, gnk_i, gnk_r, gnk_n, gi_1, Nat.reduceLT, if_true, if_false]
  refine lw_b (i_feed h) (fun x s1 hm => ?_)
  simp only [E_L_law_417, E_L_law_418, E_L_law_419, E_L_law_420, E_L_law_421, E_L_law_422, E_L_law_423, E_L_law_426, E_L_law_427, E_L_law_428, E_L_law_429, E_L_law_430, E_L_law_431, E_L_law_432, E_L_law_435, E_L_law_438, E_L_law_439, a1, a2, a3, a4, a5, v1, v2, v3, v4, v5, u1, u2, u3, u4, u5, rc_137, List.map_nil, List.map_cons, List.sum_cons, List.sum_nil, gcat_i, gcat_r, gcat_l, Nat.reduceAdd, Nat.reduceLeDiff, Nat.zero_le, Option.toList, List.cons_append, List.nil_append, gnk_i, gnk_r, gnk_n, gi_1, Nat.reduceLT, if_true, if_false]
  refine hm _ (fun s2 h2 => ?_)
  simp only [E_L_law_417, E_L_law_418, E_L_law_419, E_L_law_420, E_L_law_421, E_L_law_422, E_L_law_423, E_L_law_426, E_L_law_427, E_L_law_428, E_L_law_429, E_L_law_430, E_L_law_431, E_L_law_432, E_L_law_435, E_L_law_438, E_L_law_439, lg_cmp_self, List.map_nil, List.map_cons, List.sum_cons, List.sum_nil, gcat_i, gcat_r, gcat_l, Nat.reduceAdd, Nat.reduceLeDiff, Nat.zero_le, Option.toList, List.cons_append, List.nil_append, gnk_i, gnk_r, gnk_n, gi_1, Nat.reduceLT, if_true, if_false]
  exact hq s2 h2
theorem lw_firm (hF : ∀ s, gInv s → gBoth w 74 138 [some (.ref 0), none, none] [some (.ref 137), none] s) (h : gInv s) (hi : i + 6 ≤ w.1) (hw : w.1 < 2 ^ 31) (hq : ∀ s', gInv s' → gc_X w 41 217 1205 (lwL i) [] (gm_m s') Q) : gc_X w 41 217 440 (lwL i) [] (gm_m s) Q := by
  have a1 : nI i + 1 = nI (i + 1) := nI_add i 1
  have a2 : nI i + 2 = nI (i + 2) := nI_add i 2
  have a3 : nI i + 3 = nI (i + 3) := nI_add i 3
  have a4 : nI i + 4 = nI (i + 4) := nI_add i 4
  have a5 : nI i + 5 = nI (i + 5) := nI_add i 5
  have v : ∀ k, k < 6 → vp_in (nI (i + k)) w.1 := fun k hk => vp_in_nI (by omega) hw
  have u : ∀ k, k < 6 → (nI (i + k)).toNatClampNeg = i + k := fun k hk => nI_clamp (by omega)
  have v1 := v 1 (by omega)
  have v2 := v 2 (by omega)
  have v3 := v 3 (by omega)
  have v4 := v 4 (by omega)
  have v5 := v 5 (by omega)
  have u1 := u 1 (by omega)
  have u2 := u 2 (by omega)
  have u3 := u 3 (by omega)
  have u4 := u 4 (by omega)
  have u5 := u 5 (by omega)
  unfold lwL at hq ⊢
  simp only [E_L_law_440, E_L_law_441, E_L_law_444, E_L_law_445, E_L_law_448, E_L_law_451, E_L_law_452, a1, a2, a3, a4, a5, v1, v2, v3, v4, v5, u1, u2, u3, u4, u5, rc_0, List.map_nil, List.map_cons, List.sum_cons, List.sum_nil, gcat_i, gcat_r, gcat_l, Nat.reduceAdd, Nat.reduceLeDiff, Nat.zero_le, Option.toList, List.cons_append, List.nil_append, gnk_i, gnk_r, gnk_n, gi_1, Nat.reduceLT, if_true, if_false]
  refine lw_b (hF s h) (fun x s1 hm => ?_)
  simp only [E_L_law_440, E_L_law_441, E_L_law_444, E_L_law_445, E_L_law_448, E_L_law_451, E_L_law_452, a1, a2, a3, a4, a5, v1, v2, v3, v4, v5, u1, u2, u3, u4, u5, rc_137, List.map_nil, List.map_cons, List.sum_cons, List.sum_nil, gcat_i, gcat_r, gcat_l, Nat.reduceAdd, Nat.reduceLeDiff, Nat.zero_le, Option.toList, List.cons_append, List.nil_append, gnk_i, gnk_r, gnk_n, gi_1, Nat.reduceLT, if_true, if_false]
  refine hm _ (fun s2 h2 => ?_)
  simp only [E_L_law_440, E_L_law_441, E_L_law_444, E_L_law_445, E_L_law_448, E_L_law_451, E_L_law_452, lg_cmp_self, List.map_nil, List.map_cons, List.sum_cons, List.sum_nil, gcat_i, gcat_r, gcat_l, Nat.reduceAdd, Nat.reduceLeDiff, Nat.zero_le, Option.toList, List.cons_append, List.nil_append, gnk_i, gnk_r, gnk_n, gi_1, Nat.reduceLT, if_true, if_false]
  exact hq s2 h2
theorem lw_told (h : gInv s) (hi : i + 6 ≤ w.1) (hw : w.1 < 2 ^ 31) (hq : ∀ s', gInv s' → gc_X w 41 217 1205 (lwL i) [] (gm_m s') Q) : gc_X w 41 217 453 (lwL i) [] (gm_m s) Q := by
  have a1 : nI i + 1 = nI (i + 1) := nI_add i 1
  have a2 : nI i + 2 = nI (i + 2) := nI_add i 2
  have a3 : nI i + 3 = nI (i + 3) := nI_add i 3
  have a4 : nI i + 4 = nI (i + 4) := nI_add i 4
  have a5 : nI i + 5 = nI (i + 5) := nI_add i 5
  have v : ∀ k, k < 6 → vp_in (nI (i + k)) w.1 := fun k hk => vp_in_nI (by omega) hw
  have u : ∀ k, k < 6 → (nI (i + k)).toNatClampNeg = i + k := fun k hk => nI_clamp (by omega)
  have v1 := v 1 (by omega)
  have v2 := v 2 (by omega)
  have v3 := v 3 (by omega)
  have v4 := v 4 (by omega)
  have v5 := v 5 (by omega)
  have u1 := u 1 (by omega)
  have u2 := u 2 (by omega)
  have u3 := u 3 (by omega)
  have u4 := u 4 (by omega)
  have u5 := u 5 (by omega)
  unfold lwL at hq ⊢
  simp only [E_L_law_453, E_L_law_454, E_L_law_455, E_L_law_456, E_L_law_457, E_L_law_458, E_L_law_459, E_L_law_462, E_L_law_463, E_L_law_464, E_L_law_465, E_L_law_466, E_L_law_467, E_L_law_468, E_L_law_471, E_L_law_474, E_L_law_475, a1, a2, a3, a4, a5, v1, v2, v3, v4, v5, u1, u2, u3, u4, u5, rc_0, List.map_nil, List.map_cons, List.sum_cons, List.sum_nil, gcat_i, gcat_r, gcat_l, Nat.reduceAdd, Nat.reduceLeDiff, Nat.zero_le, Option.toList, List.cons_append, List.nil_append, gnk_i, gnk_r, gnk_n, gi_1, Nat.reduceLT, if_true, if_false]
  refine lw_b (i_told h) (fun x s1 hm => ?_)
  simp only [E_L_law_453, E_L_law_454, E_L_law_455, E_L_law_456, E_L_law_457, E_L_law_458, E_L_law_459, E_L_law_462, E_L_law_463, E_L_law_464, E_L_law_465, E_L_law_466, E_L_law_467, E_L_law_468, E_L_law_471, E_L_law_474, E_L_law_475, a1, a2, a3, a4, a5, v1, v2, v3, v4, v5, u1, u2, u3, u4, u5, rc_137, List.map_nil, List.map_cons, List.sum_cons, List.sum_nil, gcat_i, gcat_r, gcat_l, Nat.reduceAdd, Nat.reduceLeDiff, Nat.zero_le, Option.toList, List.cons_append, List.nil_append, gnk_i, gnk_r, gnk_n, gi_1, Nat.reduceLT, if_true, if_false]
  refine hm _ (fun s2 h2 => ?_)
  simp only [E_L_law_453, E_L_law_454, E_L_law_455, E_L_law_456, E_L_law_457, E_L_law_458, E_L_law_459, E_L_law_462, E_L_law_463, E_L_law_464, E_L_law_465, E_L_law_466, E_L_law_467, E_L_law_468, E_L_law_471, E_L_law_474, E_L_law_475, lg_cmp_self, List.map_nil, List.map_cons, List.sum_cons, List.sum_nil, gcat_i, gcat_r, gcat_l, Nat.reduceAdd, Nat.reduceLeDiff, Nat.zero_le, Option.toList, List.cons_append, List.nil_append, gnk_i, gnk_r, gnk_n, gi_1, Nat.reduceLT, if_true, if_false]
  exact hq s2 h2
theorem lw_pass (h : gInv s) (hi : i + 6 ≤ w.1) (hw : w.1 < 2 ^ 31) (hq : ∀ s', gInv s' → gc_X w 41 217 1205 (lwL i) [] (gm_m s') Q) : gc_X w 41 217 476 (lwL i) [] (gm_m s) Q := by
  have a1 : nI i + 1 = nI (i + 1) := nI_add i 1
  have a2 : nI i + 2 = nI (i + 2) := nI_add i 2
  have a3 : nI i + 3 = nI (i + 3) := nI_add i 3
  have a4 : nI i + 4 = nI (i + 4) := nI_add i 4
  have a5 : nI i + 5 = nI (i + 5) := nI_add i 5
  have v : ∀ k, k < 6 → vp_in (nI (i + k)) w.1 := fun k hk => vp_in_nI (by omega) hw
  have u : ∀ k, k < 6 → (nI (i + k)).toNatClampNeg = i + k := fun k hk => nI_clamp (by omega)
  have v1 := v 1 (by omega)
  have v2 := v 2 (by omega)
  have v3 := v 3 (by omega)
  have v4 := v 4 (by omega)
  have v5 := v 5 (by omega)
  have u1 := u 1 (by omega)
  have u2 := u 2 (by omega)
  have u3 := u 3 (by omega)
  have u4 := u 4 (by omega)
  have u5 := u 5 (by omega)
  unfold lwL at hq ⊢
  simp only [E_L_law_476, E_L_law_477, E_L_law_478, E_L_law_479, E_L_law_480, E_L_law_481, E_L_law_482, E_L_law_485, E_L_law_486, E_L_law_487, E_L_law_488, E_L_law_489, E_L_law_490, E_L_law_491, E_L_law_494, E_L_law_497, E_L_law_498, a1, a2, a3, a4, a5, v1, v2, v3, v4, v5, u1, u2, u3, u4, u5, rc_0, List.map_nil, List.map_cons, List.sum_cons, List.sum_nil, gcat_i, gcat_r, gcat_l, Nat.reduceAdd, Nat.reduceLeDiff, Nat.zero_le, Option.toList, List.cons_append, List.nil_append, gnk_i, gnk_r, gnk_n, gi_1, Nat.reduceLT, if_true, if_false]
  refine lw_b (i_pass h) (fun x s1 hm => ?_)
  simp only [E_L_law_476, E_L_law_477, E_L_law_478, E_L_law_479, E_L_law_480, E_L_law_481, E_L_law_482, E_L_law_485, E_L_law_486, E_L_law_487, E_L_law_488, E_L_law_489, E_L_law_490, E_L_law_491, E_L_law_494, E_L_law_497, E_L_law_498, a1, a2, a3, a4, a5, v1, v2, v3, v4, v5, u1, u2, u3, u4, u5, rc_137, List.map_nil, List.map_cons, List.sum_cons, List.sum_nil, gcat_i, gcat_r, gcat_l, Nat.reduceAdd, Nat.reduceLeDiff, Nat.zero_le, Option.toList, List.cons_append, List.nil_append, gnk_i, gnk_r, gnk_n, gi_1, Nat.reduceLT, if_true, if_false]
  refine hm _ (fun s2 h2 => ?_)
  simp only [E_L_law_476, E_L_law_477, E_L_law_478, E_L_law_479, E_L_law_480, E_L_law_481, E_L_law_482, E_L_law_485, E_L_law_486, E_L_law_487, E_L_law_488, E_L_law_489, E_L_law_490, E_L_law_491, E_L_law_494, E_L_law_497, E_L_law_498, lg_cmp_self, List.map_nil, List.map_cons, List.sum_cons, List.sum_nil, gcat_i, gcat_r, gcat_l, Nat.reduceAdd, Nat.reduceLeDiff, Nat.zero_le, Option.toList, List.cons_append, List.nil_append, gnk_i, gnk_r, gnk_n, gi_1, Nat.reduceLT, if_true, if_false]
  exact hq s2 h2
theorem lw_on (h : gInv s) (hi : i + 6 ≤ w.1) (hw : w.1 < 2 ^ 31) (hq : ∀ s', gInv s' → gc_X w 41 217 1205 (lwL i) [] (gm_m s') Q) : gc_X w 41 217 499 (lwL i) [] (gm_m s) Q := by
  have a1 : nI i + 1 = nI (i + 1) := nI_add i 1
  have a2 : nI i + 2 = nI (i + 2) := nI_add i 2
  have a3 : nI i + 3 = nI (i + 3) := nI_add i 3
  have a4 : nI i + 4 = nI (i + 4) := nI_add i 4
  have a5 : nI i + 5 = nI (i + 5) := nI_add i 5
  have v : ∀ k, k < 6 → vp_in (nI (i + k)) w.1 := fun k hk => vp_in_nI (by omega) hw
  have u : ∀ k, k < 6 → (nI (i + k)).toNatClampNeg = i + k := fun k hk => nI_clamp (by omega)
  have v1 := v 1 (by omega)
  have v2 := v 2 (by omega)
  have v3 := v 3 (by omega)
  have v4 := v 4 (by omega)
  have v5 := v 5 (by omega)
  have u1 := u 1 (by omega)
  have u2 := u 2 (by omega)
  have u3 := u 3 (by omega)
  have u4 := u 4 (by omega)
  have u5 := u 5 (by omega)
  unfold lwL at hq ⊢
  simp only [E_L_law_499, E_L_law_500, E_L_law_501, E_L_law_502, E_L_law_503, E_L_law_504, E_L_law_505, E_L_law_506, E_L_law_507, E_L_law_508, E_L_law_509, E_L_law_510, E_L_law_513, E_L_law_514, E_L_law_515, E_L_law_516, E_L_law_517, E_L_law_518, E_L_law_519, E_L_law_520, E_L_law_521, E_L_law_522, E_L_law_523, E_L_law_524, E_L_law_527, E_L_law_530, E_L_law_531, a1, a2, a3, a4, a5, v1, v2, v3, v4, v5, u1, u2, u3, u4, u5, rc_0, List.map_nil, List.map_cons, List.sum_cons, List.sum_nil, gcat_i, gcat_r, gcat_l, Nat.reduceAdd, Nat.reduceLeDiff, Nat.zero_le, Option.toList, List.cons_append, List.nil_append, gnk_i, gnk_r, gnk_n, gi_1, Nat.reduceLT, if_true, if_false]
  refine lw_b (i_on h) (fun x s1 hm => ?_)
  simp only [E_L_law_499, E_L_law_500, E_L_law_501, E_L_law_502, E_L_law_503, E_L_law_504, E_L_law_505, E_L_law_506, E_L_law_507, E_L_law_508, E_L_law_509, E_L_law_510, E_L_law_513, E_L_law_514, E_L_law_515, E_L_law_516, E_L_law_517, E_L_law_518, E_L_law_519, E_L_law_520, E_L_law_521, E_L_law_522, E_L_law_523, E_L_law_524, E_L_law_527, E_L_law_530, E_L_law_531, a1, a2, a3, a4, a5, v1, v2, v3, v4, v5, u1, u2, u3, u4, u5, rc_137, List.map_nil, List.map_cons, List.sum_cons, List.sum_nil, gcat_i, gcat_r, gcat_l, Nat.reduceAdd, Nat.reduceLeDiff, Nat.zero_le, Option.toList, List.cons_append, List.nil_append, gnk_i, gnk_r, gnk_n, gi_1, Nat.reduceLT, if_true, if_false]
  refine hm _ (fun s2 h2 => ?_)
  simp only [E_L_law_499, E_L_law_500, E_L_law_501, E_L_law_502, E_L_law_503, E_L_law_504, E_L_law_505, E_L_law_506, E_L_law_507, E_L_law_508, E_L_law_509, E_L_law_510, E_L_law_513, E_L_law_514, E_L_law_515, E_L_law_516, E_L_law_517, E_L_law_518, E_L_law_519, E_L_law_520, E_L_law_521, E_L_law_522, E_L_law_523, E_L_law_524, E_L_law_527, E_L_law_530, E_L_law_531, lg_cmp_self, List.map_nil, List.map_cons, List.sum_cons, List.sum_nil, gcat_i, gcat_r, gcat_l, Nat.reduceAdd, Nat.reduceLeDiff, Nat.zero_le, Option.toList, List.cons_append, List.nil_append, gnk_i, gnk_r, gnk_n, gi_1, Nat.reduceLT, if_true, if_false]
  exact hq s2 h2
theorem lw_best (h : gInv s) (hi : i + 6 ≤ w.1) (hw : w.1 < 2 ^ 31) (hq : ∀ s', gInv s' → gc_X w 41 217 1205 (lwL i) [] (gm_m s') Q) : gc_X w 41 217 532 (lwL i) [] (gm_m s) Q := by
  have a1 : nI i + 1 = nI (i + 1) := nI_add i 1
  have a2 : nI i + 2 = nI (i + 2) := nI_add i 2
  have a3 : nI i + 3 = nI (i + 3) := nI_add i 3
  have a4 : nI i + 4 = nI (i + 4) := nI_add i 4
  have a5 : nI i + 5 = nI (i + 5) := nI_add i 5
  have v : ∀ k, k < 6 → vp_in (nI (i + k)) w.1 := fun k hk => vp_in_nI (by omega) hw
  have u : ∀ k, k < 6 → (nI (i + k)).toNatClampNeg = i + k := fun k hk => nI_clamp (by omega)
  have v1 := v 1 (by omega)
  have v2 := v 2 (by omega)
  have v3 := v 3 (by omega)
  have v4 := v 4 (by omega)
  have v5 := v 5 (by omega)
  have u1 := u 1 (by omega)
  have u2 := u 2 (by omega)
  have u3 := u 3 (by omega)
  have u4 := u 4 (by omega)
  have u5 := u 5 (by omega)
  unfold lwL at hq ⊢
  simp only [E_L_law_532, E_L_law_533, E_L_law_534, E_L_law_535, E_L_law_536, E_L_law_537, E_L_law_538, E_L_law_539, E_L_law_540, E_L_law_541, E_L_law_542, E_L_law_543, E_L_law_546, E_L_law_547, E_L_law_548, E_L_law_549, E_L_law_550, E_L_law_551, E_L_law_552, E_L_law_553, E_L_law_554, E_L_law_555, E_L_law_556, E_L_law_557, E_L_law_560, E_L_law_563, E_L_law_564, a1, a2, a3, a4, a5, v1, v2, v3, v4, v5, u1, u2, u3, u4, u5, rc_0, List.map_nil, List.map_cons, List.sum_cons, List.sum_nil, gcat_i, gcat_r, gcat_l, Nat.reduceAdd, Nat.reduceLeDiff, Nat.zero_le, Option.toList, List.cons_append, List.nil_append, gnk_i, gnk_r, gnk_n, gi_1, Nat.reduceLT, if_true, if_false]
  refine lw_b (i_best h) (fun x s1 hm => ?_)
  simp only [E_L_law_532, E_L_law_533, E_L_law_534, E_L_law_535, E_L_law_536, E_L_law_537, E_L_law_538, E_L_law_539, E_L_law_540, E_L_law_541, E_L_law_542, E_L_law_543, E_L_law_546, E_L_law_547, E_L_law_548, E_L_law_549, E_L_law_550, E_L_law_551, E_L_law_552, E_L_law_553, E_L_law_554, E_L_law_555, E_L_law_556, E_L_law_557, E_L_law_560, E_L_law_563, E_L_law_564, a1, a2, a3, a4, a5, v1, v2, v3, v4, v5, u1, u2, u3, u4, u5, rc_137, List.map_nil, List.map_cons, List.sum_cons, List.sum_nil, gcat_i, gcat_r, gcat_l, Nat.reduceAdd, Nat.reduceLeDiff, Nat.zero_le, Option.toList, List.cons_append, List.nil_append, gnk_i, gnk_r, gnk_n, gi_1, Nat.reduceLT, if_true, if_false]
  refine hm _ (fun s2 h2 => ?_)
  simp only [E_L_law_532, E_L_law_533, E_L_law_534, E_L_law_535, E_L_law_536, E_L_law_537, E_L_law_538, E_L_law_539, E_L_law_540, E_L_law_541, E_L_law_542, E_L_law_543, E_L_law_546, E_L_law_547, E_L_law_548, E_L_law_549, E_L_law_550, E_L_law_551, E_L_law_552, E_L_law_553, E_L_law_554, E_L_law_555, E_L_law_556, E_L_law_557, E_L_law_560, E_L_law_563, E_L_law_564, lg_cmp_self, List.map_nil, List.map_cons, List.sum_cons, List.sum_nil, gcat_i, gcat_r, gcat_l, Nat.reduceAdd, Nat.reduceLeDiff, Nat.zero_le, Option.toList, List.cons_append, List.nil_append, gnk_i, gnk_r, gnk_n, gi_1, Nat.reduceLT, if_true, if_false]
  exact hq s2 h2
theorem lw_see (h : gInv s) (hi : i + 6 ≤ w.1) (hw : w.1 < 2 ^ 31) (hq : ∀ s', gInv s' → gc_X w 41 217 1205 (lwL i) [] (gm_m s') Q) : gc_X w 41 217 565 (lwL i) [] (gm_m s) Q := by
  have a1 : nI i + 1 = nI (i + 1) := nI_add i 1
  have a2 : nI i + 2 = nI (i + 2) := nI_add i 2
  have a3 : nI i + 3 = nI (i + 3) := nI_add i 3
  have a4 : nI i + 4 = nI (i + 4) := nI_add i 4
  have a5 : nI i + 5 = nI (i + 5) := nI_add i 5
  have v : ∀ k, k < 6 → vp_in (nI (i + k)) w.1 := fun k hk => vp_in_nI (by omega) hw
  have u : ∀ k, k < 6 → (nI (i + k)).toNatClampNeg = i + k := fun k hk => nI_clamp (by omega)
  have v1 := v 1 (by omega)
  have v2 := v 2 (by omega)
  have v3 := v 3 (by omega)
  have v4 := v 4 (by omega)
  have v5 := v 5 (by omega)
  have u1 := u 1 (by omega)
  have u2 := u 2 (by omega)
  have u3 := u 3 (by omega)
  have u4 := u 4 (by omega)
  have u5 := u 5 (by omega)
  unfold lwL at hq ⊢
  simp only [E_L_law_565, E_L_law_566, E_L_law_567, E_L_law_568, E_L_law_569, E_L_law_570, E_L_law_571, E_L_law_572, E_L_law_573, E_L_law_574, E_L_law_575, E_L_law_576, E_L_law_577, E_L_law_578, E_L_law_579, E_L_law_580, E_L_law_581, E_L_law_584, E_L_law_585, E_L_law_586, E_L_law_587, E_L_law_588, E_L_law_589, E_L_law_590, E_L_law_591, E_L_law_592, E_L_law_593, E_L_law_594, E_L_law_595, E_L_law_596, E_L_law_597, E_L_law_598, E_L_law_599, E_L_law_600, E_L_law_603, E_L_law_606, E_L_law_607, a1, a2, a3, a4, a5, v1, v2, v3, v4, v5, u1, u2, u3, u4, u5, rc_0, List.map_nil, List.map_cons, List.sum_cons, List.sum_nil, gcat_i, gcat_r, gcat_l, Nat.reduceAdd, Nat.reduceLeDiff, Nat.zero_le, Option.toList, List.cons_append, List.nil_append, gnk_i, gnk_r, gnk_n, gi_1, Nat.reduceLT, if_true, if_false]
  refine lw_b (i_see h) (fun x s1 hm => ?_)
  simp only [E_L_law_565, E_L_law_566, E_L_law_567, E_L_law_568, E_L_law_569, E_L_law_570, E_L_law_571, E_L_law_572, E_L_law_573, E_L_law_574, E_L_law_575, E_L_law_576, E_L_law_577, E_L_law_578, E_L_law_579, E_L_law_580, E_L_law_581, E_L_law_584, E_L_law_585, E_L_law_586, E_L_law_587, E_L_law_588, E_L_law_589, E_L_law_590, E_L_law_591, E_L_law_592, E_L_law_593, E_L_law_594, E_L_law_595, E_L_law_596, E_L_law_597, E_L_law_598, E_L_law_599, E_L_law_600, E_L_law_603, E_L_law_606, E_L_law_607, a1, a2, a3, a4, a5, v1, v2, v3, v4, v5, u1, u2, u3, u4, u5, rc_137, List.map_nil, List.map_cons, List.sum_cons, List.sum_nil, gcat_i, gcat_r, gcat_l, Nat.reduceAdd, Nat.reduceLeDiff, Nat.zero_le, Option.toList, List.cons_append, List.nil_append, gnk_i, gnk_r, gnk_n, gi_1, Nat.reduceLT, if_true, if_false]
  refine hm _ (fun s2 h2 => ?_)
  simp only [E_L_law_565, E_L_law_566, E_L_law_567, E_L_law_568, E_L_law_569, E_L_law_570, E_L_law_571, E_L_law_572, E_L_law_573, E_L_law_574, E_L_law_575, E_L_law_576, E_L_law_577, E_L_law_578, E_L_law_579, E_L_law_580, E_L_law_581, E_L_law_584, E_L_law_585, E_L_law_586, E_L_law_587, E_L_law_588, E_L_law_589, E_L_law_590, E_L_law_591, E_L_law_592, E_L_law_593, E_L_law_594, E_L_law_595, E_L_law_596, E_L_law_597, E_L_law_598, E_L_law_599, E_L_law_600, E_L_law_603, E_L_law_606, E_L_law_607, lg_cmp_self, List.map_nil, List.map_cons, List.sum_cons, List.sum_nil, gcat_i, gcat_r, gcat_l, Nat.reduceAdd, Nat.reduceLeDiff, Nat.zero_le, Option.toList, List.cons_append, List.nil_append, gnk_i, gnk_r, gnk_n, gi_1, Nat.reduceLT, if_true, if_false]
  exact hq s2 h2
theorem lw_can (h : gInv s) (hi : i + 6 ≤ w.1) (hw : w.1 < 2 ^ 31) (hq : ∀ s', gInv s' → gc_X w 41 217 1205 (lwL i) [] (gm_m s') Q) : gc_X w 41 217 608 (lwL i) [] (gm_m s) Q := by
  have a1 : nI i + 1 = nI (i + 1) := nI_add i 1
  have a2 : nI i + 2 = nI (i + 2) := nI_add i 2
  have a3 : nI i + 3 = nI (i + 3) := nI_add i 3
  have a4 : nI i + 4 = nI (i + 4) := nI_add i 4
  have a5 : nI i + 5 = nI (i + 5) := nI_add i 5
  have v : ∀ k, k < 6 → vp_in (nI (i + k)) w.1 := fun k hk => vp_in_nI (by omega) hw
  have u : ∀ k, k < 6 → (nI (i + k)).toNatClampNeg = i + k := fun k hk => nI_clamp (by omega)
  have v1 := v 1 (by omega)
  have v2 := v 2 (by omega)
  have v3 := v 3 (by omega)
  have v4 := v 4 (by omega)
  have v5 := v 5 (by omega)
  have u1 := u 1 (by omega)
  have u2 := u 2 (by omega)
  have u3 := u 3 (by omega)
  have u4 := u 4 (by omega)
  have u5 := u 5 (by omega)
  unfold lwL at hq ⊢
  simp only [E_L_law_608, E_L_law_609, E_L_law_610, E_L_law_611, E_L_law_612, E_L_law_613, E_L_law_614, E_L_law_615, E_L_law_616, E_L_law_617, E_L_law_618, E_L_law_619, E_L_law_622, E_L_law_623, E_L_law_624, E_L_law_625, E_L_law_626, E_L_law_627, E_L_law_628, E_L_law_629, E_L_law_630, E_L_law_631, E_L_law_632, E_L_law_633, E_L_law_636, E_L_law_639, E_L_law_640, a1, a2, a3, a4, a5, v1, v2, v3, v4, v5, u1, u2, u3, u4, u5, rc_0, List.map_nil, List.map_cons, List.sum_cons, List.sum_nil, gcat_i, gcat_r, gcat_l, Nat.reduceAdd, Nat.reduceLeDiff, Nat.zero_le, Option.toList, List.cons_append, List.nil_append, gnk_i, gnk_r, gnk_n, gi_1, Nat.reduceLT, if_true, if_false]
  refine lw_b (i_can h) (fun x s1 hm => ?_)
  simp only [E_L_law_608, E_L_law_609, E_L_law_610, E_L_law_611, E_L_law_612, E_L_law_613, E_L_law_614, E_L_law_615, E_L_law_616, E_L_law_617, E_L_law_618, E_L_law_619, E_L_law_622, E_L_law_623, E_L_law_624, E_L_law_625, E_L_law_626, E_L_law_627, E_L_law_628, E_L_law_629, E_L_law_630, E_L_law_631, E_L_law_632, E_L_law_633, E_L_law_636, E_L_law_639, E_L_law_640, a1, a2, a3, a4, a5, v1, v2, v3, v4, v5, u1, u2, u3, u4, u5, rc_137, List.map_nil, List.map_cons, List.sum_cons, List.sum_nil, gcat_i, gcat_r, gcat_l, Nat.reduceAdd, Nat.reduceLeDiff, Nat.zero_le, Option.toList, List.cons_append, List.nil_append, gnk_i, gnk_r, gnk_n, gi_1, Nat.reduceLT, if_true, if_false]
  refine hm _ (fun s2 h2 => ?_)
  simp only [E_L_law_608, E_L_law_609, E_L_law_610, E_L_law_611, E_L_law_612, E_L_law_613, E_L_law_614, E_L_law_615, E_L_law_616, E_L_law_617, E_L_law_618, E_L_law_619, E_L_law_622, E_L_law_623, E_L_law_624, E_L_law_625, E_L_law_626, E_L_law_627, E_L_law_628, E_L_law_629, E_L_law_630, E_L_law_631, E_L_law_632, E_L_law_633, E_L_law_636, E_L_law_639, E_L_law_640, lg_cmp_self, List.map_nil, List.map_cons, List.sum_cons, List.sum_nil, gcat_i, gcat_r, gcat_l, Nat.reduceAdd, Nat.reduceLeDiff, Nat.zero_le, Option.toList, List.cons_append, List.nil_append, gnk_i, gnk_r, gnk_n, gi_1, Nat.reduceLT, if_true, if_false]
  exact hq s2 h2
theorem lw_odds (h : gInv s) (hi : i + 6 ≤ w.1) (hw : w.1 < 2 ^ 31) (hq : ∀ s', gInv s' → gc_X w 41 217 1205 (lwL i) [] (gm_m s') Q) : gc_X w 41 217 641 (lwL i) [] (gm_m s) Q := by
  have a1 : nI i + 1 = nI (i + 1) := nI_add i 1
  have a2 : nI i + 2 = nI (i + 2) := nI_add i 2
  have a3 : nI i + 3 = nI (i + 3) := nI_add i 3
  have a4 : nI i + 4 = nI (i + 4) := nI_add i 4
  have a5 : nI i + 5 = nI (i + 5) := nI_add i 5
  have v : ∀ k, k < 6 → vp_in (nI (i + k)) w.1 := fun k hk => vp_in_nI (by omega) hw
  have u : ∀ k, k < 6 → (nI (i + k)).toNatClampNeg = i + k := fun k hk => nI_clamp (by omega)
  have v1 := v 1 (by omega)
  have v2 := v 2 (by omega)
  have v3 := v 3 (by omega)
  have v4 := v 4 (by omega)
  have v5 := v 5 (by omega)
  have u1 := u 1 (by omega)
  have u2 := u 2 (by omega)
  have u3 := u 3 (by omega)
  have u4 := u 4 (by omega)
  have u5 := u 5 (by omega)
  unfold lwL at hq ⊢
  simp only [E_L_law_641, E_L_law_642, E_L_law_643, E_L_law_644, E_L_law_645, E_L_law_646, E_L_law_647, E_L_law_648, E_L_law_649, E_L_law_650, E_L_law_651, E_L_law_652, E_L_law_653, E_L_law_654, E_L_law_655, E_L_law_656, E_L_law_657, E_L_law_660, E_L_law_661, E_L_law_662, E_L_law_663, E_L_law_664, E_L_law_665, E_L_law_666, E_L_law_667, E_L_law_668, E_L_law_669, E_L_law_670, E_L_law_671, E_L_law_672, E_L_law_673, E_L_law_674, E_L_law_675, E_L_law_676, E_L_law_679, E_L_law_680, E_L_law_683, E_L_law_684, a1, a2, a3, a4, a5, v1, v2, v3, v4, v5, u1, u2, u3, u4, u5, rc_0, List.map_nil, List.map_cons, List.sum_cons, List.sum_nil, gcat_i, gcat_r, gcat_l, Nat.reduceAdd, Nat.reduceLeDiff, Nat.zero_le, Option.toList, List.cons_append, List.nil_append, gnk_i, gnk_r, gnk_n, gi_1, Nat.reduceLT, if_true, if_false]
  refine lw_l (i_odds h) (fun x s1 hm => ?_)
  simp only [E_L_law_641, E_L_law_642, E_L_law_643, E_L_law_644, E_L_law_645, E_L_law_646, E_L_law_647, E_L_law_648, E_L_law_649, E_L_law_650, E_L_law_651, E_L_law_652, E_L_law_653, E_L_law_654, E_L_law_655, E_L_law_656, E_L_law_657, E_L_law_660, E_L_law_661, E_L_law_662, E_L_law_663, E_L_law_664, E_L_law_665, E_L_law_666, E_L_law_667, E_L_law_668, E_L_law_669, E_L_law_670, E_L_law_671, E_L_law_672, E_L_law_673, E_L_law_674, E_L_law_675, E_L_law_676, E_L_law_679, E_L_law_680, E_L_law_683, E_L_law_684, a1, a2, a3, a4, a5, v1, v2, v3, v4, v5, u1, u2, u3, u4, u5, rc_137, List.map_nil, List.map_cons, List.sum_cons, List.sum_nil, gcat_i, gcat_r, gcat_l, Nat.reduceAdd, Nat.reduceLeDiff, Nat.zero_le, Option.toList, List.cons_append, List.nil_append, gnk_i, gnk_r, gnk_n, gi_1, Nat.reduceLT, if_true, if_false]
  refine hm _ (fun s2 h2 => ?_)
  simp only [E_L_law_641, E_L_law_642, E_L_law_643, E_L_law_644, E_L_law_645, E_L_law_646, E_L_law_647, E_L_law_648, E_L_law_649, E_L_law_650, E_L_law_651, E_L_law_652, E_L_law_653, E_L_law_654, E_L_law_655, E_L_law_656, E_L_law_657, E_L_law_660, E_L_law_661, E_L_law_662, E_L_law_663, E_L_law_664, E_L_law_665, E_L_law_666, E_L_law_667, E_L_law_668, E_L_law_669, E_L_law_670, E_L_law_671, E_L_law_672, E_L_law_673, E_L_law_674, E_L_law_675, E_L_law_676, E_L_law_679, E_L_law_680, E_L_law_683, E_L_law_684, lg_cmp_self, List.map_nil, List.map_cons, List.sum_cons, List.sum_nil, gcat_i, gcat_r, gcat_l, Nat.reduceAdd, Nat.reduceLeDiff, Nat.zero_le, Option.toList, List.cons_append, List.nil_append, gnk_i, gnk_r, gnk_n, gi_1, Nat.reduceLT, if_true, if_false]
  exact hq s2 h2
theorem lw_mean (h : gInv s) (hi : i + 6 ≤ w.1) (hw : w.1 < 2 ^ 31) (hq : ∀ s', gInv s' → gc_X w 41 217 1205 (lwL i) [] (gm_m s') Q) : gc_X w 41 217 685 (lwL i) [] (gm_m s) Q := by
  have a1 : nI i + 1 = nI (i + 1) := nI_add i 1
  have a2 : nI i + 2 = nI (i + 2) := nI_add i 2
  have a3 : nI i + 3 = nI (i + 3) := nI_add i 3
  have a4 : nI i + 4 = nI (i + 4) := nI_add i 4
  have a5 : nI i + 5 = nI (i + 5) := nI_add i 5
  have v : ∀ k, k < 6 → vp_in (nI (i + k)) w.1 := fun k hk => vp_in_nI (by omega) hw
  have u : ∀ k, k < 6 → (nI (i + k)).toNatClampNeg = i + k := fun k hk => nI_clamp (by omega)
  have v1 := v 1 (by omega)
  have v2 := v 2 (by omega)
  have v3 := v 3 (by omega)
  have v4 := v 4 (by omega)
  have v5 := v 5 (by omega)
  have u1 := u 1 (by omega)
  have u2 := u 2 (by omega)
  have u3 := u 3 (by omega)
  have u4 := u 4 (by omega)
  have u5 := u 5 (by omega)
  unfold lwL at hq ⊢
  simp only [E_L_law_685, E_L_law_686, E_L_law_687, E_L_law_688, E_L_law_689, E_L_law_690, E_L_law_691, E_L_law_694, E_L_law_695, E_L_law_696, E_L_law_697, E_L_law_698, E_L_law_699, E_L_law_700, E_L_law_703, E_L_law_704, E_L_law_707, E_L_law_708, a1, a2, a3, a4, a5, v1, v2, v3, v4, v5, u1, u2, u3, u4, u5, rc_0, List.map_nil, List.map_cons, List.sum_cons, List.sum_nil, gcat_i, gcat_r, gcat_l, Nat.reduceAdd, Nat.reduceLeDiff, Nat.zero_le, Option.toList, List.cons_append, List.nil_append, gnk_i, gnk_r, gnk_n, gi_1, Nat.reduceLT, if_true, if_false]
  refine lw_l (i_mean h) (fun x s1 hm => ?_)
  simp only [E_L_law_685, E_L_law_686, E_L_law_687, E_L_law_688, E_L_law_689, E_L_law_690, E_L_law_691, E_L_law_694, E_L_law_695, E_L_law_696, E_L_law_697, E_L_law_698, E_L_law_699, E_L_law_700, E_L_law_703, E_L_law_704, E_L_law_707, E_L_law_708, a1, a2, a3, a4, a5, v1, v2, v3, v4, v5, u1, u2, u3, u4, u5, rc_137, List.map_nil, List.map_cons, List.sum_cons, List.sum_nil, gcat_i, gcat_r, gcat_l, Nat.reduceAdd, Nat.reduceLeDiff, Nat.zero_le, Option.toList, List.cons_append, List.nil_append, gnk_i, gnk_r, gnk_n, gi_1, Nat.reduceLT, if_true, if_false]
  refine hm _ (fun s2 h2 => ?_)
  simp only [E_L_law_685, E_L_law_686, E_L_law_687, E_L_law_688, E_L_law_689, E_L_law_690, E_L_law_691, E_L_law_694, E_L_law_695, E_L_law_696, E_L_law_697, E_L_law_698, E_L_law_699, E_L_law_700, E_L_law_703, E_L_law_704, E_L_law_707, E_L_law_708, lg_cmp_self, List.map_nil, List.map_cons, List.sum_cons, List.sum_nil, gcat_i, gcat_r, gcat_l, Nat.reduceAdd, Nat.reduceLeDiff, Nat.zero_le, Option.toList, List.cons_append, List.nil_append, gnk_i, gnk_r, gnk_n, gi_1, Nat.reduceLT, if_true, if_false]
  exact hq s2 h2
theorem lw_plan (h : gInv s) (hi : i + 6 ≤ w.1) (hw : w.1 < 2 ^ 31) (hq : ∀ s', gInv s' → gc_X w 41 217 1205 (lwL i) [] (gm_m s') Q) : gc_X w 41 217 709 (lwL i) [] (gm_m s) Q := by
  have a1 : nI i + 1 = nI (i + 1) := nI_add i 1
  have a2 : nI i + 2 = nI (i + 2) := nI_add i 2
  have a3 : nI i + 3 = nI (i + 3) := nI_add i 3
  have a4 : nI i + 4 = nI (i + 4) := nI_add i 4
  have a5 : nI i + 5 = nI (i + 5) := nI_add i 5
  have v : ∀ k, k < 6 → vp_in (nI (i + k)) w.1 := fun k hk => vp_in_nI (by omega) hw
  have u : ∀ k, k < 6 → (nI (i + k)).toNatClampNeg = i + k := fun k hk => nI_clamp (by omega)
  have v1 := v 1 (by omega)
  have v2 := v 2 (by omega)
  have v3 := v 3 (by omega)
  have v4 := v 4 (by omega)
  have v5 := v 5 (by omega)
  have u1 := u 1 (by omega)
  have u2 := u 2 (by omega)
  have u3 := u 3 (by omega)
  have u4 := u 4 (by omega)
  have u5 := u 5 (by omega)
  unfold lwL at hq ⊢
  simp only [E_L_law_709, E_L_law_710, E_L_law_711, E_L_law_712, E_L_law_713, E_L_law_714, E_L_law_715, E_L_law_716, E_L_law_717, E_L_law_718, E_L_law_719, E_L_law_720, E_L_law_723, E_L_law_724, E_L_law_725, E_L_law_726, E_L_law_727, E_L_law_728, E_L_law_729, E_L_law_730, E_L_law_731, E_L_law_732, E_L_law_733, E_L_law_734, E_L_law_737, E_L_law_740, E_L_law_741, a1, a2, a3, a4, a5, v1, v2, v3, v4, v5, u1, u2, u3, u4, u5, rc_0, List.map_nil, List.map_cons, List.sum_cons, List.sum_nil, gcat_i, gcat_r, gcat_l, Nat.reduceAdd, Nat.reduceLeDiff, Nat.zero_le, Option.toList, List.cons_append, List.nil_append, gnk_i, gnk_r, gnk_n, gi_1, Nat.reduceLT, if_true, if_false]
  refine lw_b (i_plan h) (fun x s1 hm => ?_)
  simp only [E_L_law_709, E_L_law_710, E_L_law_711, E_L_law_712, E_L_law_713, E_L_law_714, E_L_law_715, E_L_law_716, E_L_law_717, E_L_law_718, E_L_law_719, E_L_law_720, E_L_law_723, E_L_law_724, E_L_law_725, E_L_law_726, E_L_law_727, E_L_law_728, E_L_law_729, E_L_law_730, E_L_law_731, E_L_law_732, E_L_law_733, E_L_law_734, E_L_law_737, E_L_law_740, E_L_law_741, a1, a2, a3, a4, a5, v1, v2, v3, v4, v5, u1, u2, u3, u4, u5, rc_137, List.map_nil, List.map_cons, List.sum_cons, List.sum_nil, gcat_i, gcat_r, gcat_l, Nat.reduceAdd, Nat.reduceLeDiff, Nat.zero_le, Option.toList, List.cons_append, List.nil_append, gnk_i, gnk_r, gnk_n, gi_1, Nat.reduceLT, if_true, if_false]
  refine hm _ (fun s2 h2 => ?_)
  simp only [E_L_law_709, E_L_law_710, E_L_law_711, E_L_law_712, E_L_law_713, E_L_law_714, E_L_law_715, E_L_law_716, E_L_law_717, E_L_law_718, E_L_law_719, E_L_law_720, E_L_law_723, E_L_law_724, E_L_law_725, E_L_law_726, E_L_law_727, E_L_law_728, E_L_law_729, E_L_law_730, E_L_law_731, E_L_law_732, E_L_law_733, E_L_law_734, E_L_law_737, E_L_law_740, E_L_law_741, lg_cmp_self, List.map_nil, List.map_cons, List.sum_cons, List.sum_nil, gcat_i, gcat_r, gcat_l, Nat.reduceAdd, Nat.reduceLeDiff, Nat.zero_le, Option.toList, List.cons_append, List.nil_append, gnk_i, gnk_r, gnk_n, gi_1, Nat.reduceLT, if_true, if_false]
  exact hq s2 h2
theorem lw_ends (h : gInv s) (hi : i + 6 ≤ w.1) (hw : w.1 < 2 ^ 31) (hq : ∀ s', gInv s' → gc_X w 41 217 1205 (lwL i) [] (gm_m s') Q) : gc_X w 41 217 742 (lwL i) [] (gm_m s) Q := by
  have a1 : nI i + 1 = nI (i + 1) := nI_add i 1
  have a2 : nI i + 2 = nI (i + 2) := nI_add i 2
  have a3 : nI i + 3 = nI (i + 3) := nI_add i 3
  have a4 : nI i + 4 = nI (i + 4) := nI_add i 4
  have a5 : nI i + 5 = nI (i + 5) := nI_add i 5
  have v : ∀ k, k < 6 → vp_in (nI (i + k)) w.1 := fun k hk => vp_in_nI (by omega) hw
  have u : ∀ k, k < 6 → (nI (i + k)).toNatClampNeg = i + k := fun k hk => nI_clamp (by omega)
  have v1 := v 1 (by omega)
  have v2 := v 2 (by omega)
  have v3 := v 3 (by omega)
  have v4 := v 4 (by omega)
  have v5 := v 5 (by omega)
  have u1 := u 1 (by omega)
  have u2 := u 2 (by omega)
  have u3 := u 3 (by omega)
  have u4 := u 4 (by omega)
  have u5 := u 5 (by omega)
  unfold lwL at hq ⊢
  simp only [E_L_law_742, E_L_law_743, E_L_law_744, E_L_law_745, E_L_law_746, E_L_law_747, E_L_law_748, E_L_law_751, E_L_law_752, E_L_law_753, E_L_law_754, E_L_law_755, E_L_law_756, E_L_law_757, E_L_law_760, E_L_law_763, E_L_law_764, a1, a2, a3, a4, a5, v1, v2, v3, v4, v5, u1, u2, u3, u4, u5, rc_0, List.map_nil, List.map_cons, List.sum_cons, List.sum_nil, gcat_i, gcat_r, gcat_l, Nat.reduceAdd, Nat.reduceLeDiff, Nat.zero_le, Option.toList, List.cons_append, List.nil_append, gnk_i, gnk_r, gnk_n, gi_1, Nat.reduceLT, if_true, if_false]
  refine lw_b (i_ends h) (fun x s1 hm => ?_)
  simp only [E_L_law_742, E_L_law_743, E_L_law_744, E_L_law_745, E_L_law_746, E_L_law_747, E_L_law_748, E_L_law_751, E_L_law_752, E_L_law_753, E_L_law_754, E_L_law_755, E_L_law_756, E_L_law_757, E_L_law_760, E_L_law_763, E_L_law_764, a1, a2, a3, a4, a5, v1, v2, v3, v4, v5, u1, u2, u3, u4, u5, rc_137, List.map_nil, List.map_cons, List.sum_cons, List.sum_nil, gcat_i, gcat_r, gcat_l, Nat.reduceAdd, Nat.reduceLeDiff, Nat.zero_le, Option.toList, List.cons_append, List.nil_append, gnk_i, gnk_r, gnk_n, gi_1, Nat.reduceLT, if_true, if_false]
  refine hm _ (fun s2 h2 => ?_)
  simp only [E_L_law_742, E_L_law_743, E_L_law_744, E_L_law_745, E_L_law_746, E_L_law_747, E_L_law_748, E_L_law_751, E_L_law_752, E_L_law_753, E_L_law_754, E_L_law_755, E_L_law_756, E_L_law_757, E_L_law_760, E_L_law_763, E_L_law_764, lg_cmp_self, List.map_nil, List.map_cons, List.sum_cons, List.sum_nil, gcat_i, gcat_r, gcat_l, Nat.reduceAdd, Nat.reduceLeDiff, Nat.zero_le, Option.toList, List.cons_append, List.nil_append, gnk_i, gnk_r, gnk_n, gi_1, Nat.reduceLT, if_true, if_false]
  exact hq s2 h2
theorem lw_book (h : gInv s) (hi : i + 6 ≤ w.1) (hw : w.1 < 2 ^ 31) (hq : ∀ s', gInv s' → gc_X w 41 217 1205 (lwL i) [] (gm_m s') Q) : gc_X w 41 217 765 (lwL i) [] (gm_m s) Q := by
  have a1 : nI i + 1 = nI (i + 1) := nI_add i 1
  have a2 : nI i + 2 = nI (i + 2) := nI_add i 2
  have a3 : nI i + 3 = nI (i + 3) := nI_add i 3
  have a4 : nI i + 4 = nI (i + 4) := nI_add i 4
  have a5 : nI i + 5 = nI (i + 5) := nI_add i 5
  have v : ∀ k, k < 6 → vp_in (nI (i + k)) w.1 := fun k hk => vp_in_nI (by omega) hw
  have u : ∀ k, k < 6 → (nI (i + k)).toNatClampNeg = i + k := fun k hk => nI_clamp (by omega)
  have v1 := v 1 (by omega)
  have v2 := v 2 (by omega)
  have v3 := v 3 (by omega)
  have v4 := v 4 (by omega)
  have v5 := v 5 (by omega)
  have u1 := u 1 (by omega)
  have u2 := u 2 (by omega)
  have u3 := u 3 (by omega)
  have u4 := u 4 (by omega)
  have u5 := u 5 (by omega)
  unfold lwL at hq ⊢
  simp only [E_L_law_765, E_L_law_766, E_L_law_767, E_L_law_768, E_L_law_769, E_L_law_770, E_L_law_771, E_L_law_772, E_L_law_773, E_L_law_774, E_L_law_775, E_L_law_776, E_L_law_779, E_L_law_780, E_L_law_781, E_L_law_782, E_L_law_783, E_L_law_784, E_L_law_785, E_L_law_786, E_L_law_787, E_L_law_788, E_L_law_789, E_L_law_790, E_L_law_793, E_L_law_796, E_L_law_797, a1, a2, a3, a4, a5, v1, v2, v3, v4, v5, u1, u2, u3, u4, u5, rc_0, List.map_nil, List.map_cons, List.sum_cons, List.sum_nil, gcat_i, gcat_r, gcat_l, Nat.reduceAdd, Nat.reduceLeDiff, Nat.zero_le, Option.toList, List.cons_append, List.nil_append, gnk_i, gnk_r, gnk_n, gi_1, Nat.reduceLT, if_true, if_false]
  refine lw_b (i_book h) (fun x s1 hm => ?_)
  simp only [E_L_law_765, E_L_law_766, E_L_law_767, E_L_law_768, E_L_law_769, E_L_law_770, E_L_law_771, E_L_law_772, E_L_law_773, E_L_law_774, E_L_law_775, E_L_law_776, E_L_law_779, E_L_law_780, E_L_law_781, E_L_law_782, E_L_law_783, E_L_law_784, E_L_law_785, E_L_law_786, E_L_law_787, E_L_law_788, E_L_law_789, E_L_law_790, E_L_law_793, E_L_law_796, E_L_law_797, a1, a2, a3, a4, a5, v1, v2, v3, v4, v5, u1, u2, u3, u4, u5, rc_137, List.map_nil, List.map_cons, List.sum_cons, List.sum_nil, gcat_i, gcat_r, gcat_l, Nat.reduceAdd, Nat.reduceLeDiff, Nat.zero_le, Option.toList, List.cons_append, List.nil_append, gnk_i, gnk_r, gnk_n, gi_1, Nat.reduceLT, if_true, if_false]
  refine hm _ (fun s2 h2 => ?_)
  simp only [E_L_law_765, E_L_law_766, E_L_law_767, E_L_law_768, E_L_law_769, E_L_law_770, E_L_law_771, E_L_law_772, E_L_law_773, E_L_law_774, E_L_law_775, E_L_law_776, E_L_law_779, E_L_law_780, E_L_law_781, E_L_law_782, E_L_law_783, E_L_law_784, E_L_law_785, E_L_law_786, E_L_law_787, E_L_law_788, E_L_law_789, E_L_law_790, E_L_law_793, E_L_law_796, E_L_law_797, lg_cmp_self, List.map_nil, List.map_cons, List.sum_cons, List.sum_nil, gcat_i, gcat_r, gcat_l, Nat.reduceAdd, Nat.reduceLeDiff, Nat.zero_le, Option.toList, List.cons_append, List.nil_append, gnk_i, gnk_r, gnk_n, gi_1, Nat.reduceLT, if_true, if_false]
  exact hq s2 h2
theorem lw_looked (h : gInv s) (hi : i + 6 ≤ w.1) (hw : w.1 < 2 ^ 31) (hq : ∀ s', gInv s' → gc_X w 41 217 1205 (lwL i) [] (gm_m s') Q) : gc_X w 41 217 798 (lwL i) [] (gm_m s) Q := by
  have a1 : nI i + 1 = nI (i + 1) := nI_add i 1
  have a2 : nI i + 2 = nI (i + 2) := nI_add i 2
  have a3 : nI i + 3 = nI (i + 3) := nI_add i 3
  have a4 : nI i + 4 = nI (i + 4) := nI_add i 4
  have a5 : nI i + 5 = nI (i + 5) := nI_add i 5
  have v : ∀ k, k < 6 → vp_in (nI (i + k)) w.1 := fun k hk => vp_in_nI (by omega) hw
  have u : ∀ k, k < 6 → (nI (i + k)).toNatClampNeg = i + k := fun k hk => nI_clamp (by omega)
  have v1 := v 1 (by omega)
  have v2 := v 2 (by omega)
  have v3 := v 3 (by omega)
  have v4 := v 4 (by omega)
  have v5 := v 5 (by omega)
  have u1 := u 1 (by omega)
  have u2 := u 2 (by omega)
  have u3 := u 3 (by omega)
  have u4 := u 4 (by omega)
  have u5 := u 5 (by omega)
  unfold lwL at hq ⊢
  simp only [E_L_law_798, E_L_law_799, E_L_law_802, E_L_law_803, E_L_law_806, E_L_law_809, E_L_law_810, a1, a2, a3, a4, a5, v1, v2, v3, v4, v5, u1, u2, u3, u4, u5, rc_0, List.map_nil, List.map_cons, List.sum_cons, List.sum_nil, gcat_i, gcat_r, gcat_l, Nat.reduceAdd, Nat.reduceLeDiff, Nat.zero_le, Option.toList, List.cons_append, List.nil_append, gnk_i, gnk_r, gnk_n, gi_1, Nat.reduceLT, if_true, if_false]
  refine lw_b (i_looked h) (fun x s1 hm => ?_)
  simp only [E_L_law_798, E_L_law_799, E_L_law_802, E_L_law_803, E_L_law_806, E_L_law_809, E_L_law_810, a1, a2, a3, a4, a5, v1, v2, v3, v4, v5, u1, u2, u3, u4, u5, rc_137, List.map_nil, List.map_cons, List.sum_cons, List.sum_nil, gcat_i, gcat_r, gcat_l, Nat.reduceAdd, Nat.reduceLeDiff, Nat.zero_le, Option.toList, List.cons_append, List.nil_append, gnk_i, gnk_r, gnk_n, gi_1, Nat.reduceLT, if_true, if_false]
  refine hm _ (fun s2 h2 => ?_)
  simp only [E_L_law_798, E_L_law_799, E_L_law_802, E_L_law_803, E_L_law_806, E_L_law_809, E_L_law_810, lg_cmp_self, List.map_nil, List.map_cons, List.sum_cons, List.sum_nil, gcat_i, gcat_r, gcat_l, Nat.reduceAdd, Nat.reduceLeDiff, Nat.zero_le, Option.toList, List.cons_append, List.nil_append, gnk_i, gnk_r, gnk_n, gi_1, Nat.reduceLT, if_true, if_false]
  exact hq s2 h2
theorem lw_judge (h : gInv s) (hi : i + 6 ≤ w.1) (hw : w.1 < 2 ^ 31) (hq : ∀ s', gInv s' → gc_X w 41 217 1205 (lwL i) [] (gm_m s') Q) : gc_X w 41 217 811 (lwL i) [] (gm_m s) Q := by
  have a1 : nI i + 1 = nI (i + 1) := nI_add i 1
  have a2 : nI i + 2 = nI (i + 2) := nI_add i 2
  have a3 : nI i + 3 = nI (i + 3) := nI_add i 3
  have a4 : nI i + 4 = nI (i + 4) := nI_add i 4
  have a5 : nI i + 5 = nI (i + 5) := nI_add i 5
  have v : ∀ k, k < 6 → vp_in (nI (i + k)) w.1 := fun k hk => vp_in_nI (by omega) hw
  have u : ∀ k, k < 6 → (nI (i + k)).toNatClampNeg = i + k := fun k hk => nI_clamp (by omega)
  have v1 := v 1 (by omega)
  have v2 := v 2 (by omega)
  have v3 := v 3 (by omega)
  have v4 := v 4 (by omega)
  have v5 := v 5 (by omega)
  have u1 := u 1 (by omega)
  have u2 := u 2 (by omega)
  have u3 := u 3 (by omega)
  have u4 := u 4 (by omega)
  have u5 := u 5 (by omega)
  unfold lwL at hq ⊢
  simp only [E_L_law_811, E_L_law_812, E_L_law_813, E_L_law_814, E_L_law_815, E_L_law_816, E_L_law_817, E_L_law_818, E_L_law_819, E_L_law_820, E_L_law_821, E_L_law_822, E_L_law_825, E_L_law_826, E_L_law_827, E_L_law_828, E_L_law_829, E_L_law_830, E_L_law_831, E_L_law_832, E_L_law_833, E_L_law_834, E_L_law_835, E_L_law_836, E_L_law_839, E_L_law_842, E_L_law_843, a1, a2, a3, a4, a5, v1, v2, v3, v4, v5, u1, u2, u3, u4, u5, rc_0, List.map_nil, List.map_cons, List.sum_cons, List.sum_nil, gcat_i, gcat_r, gcat_l, Nat.reduceAdd, Nat.reduceLeDiff, Nat.zero_le, Option.toList, List.cons_append, List.nil_append, gnk_i, gnk_r, gnk_n, gi_1, Nat.reduceLT, if_true, if_false]
  refine lw_b (i_judge h) (fun x s1 hm => ?_)
  simp only [E_L_law_811, E_L_law_812, E_L_law_813, E_L_law_814, E_L_law_815, E_L_law_816, E_L_law_817, E_L_law_818, E_L_law_819, E_L_law_820, E_L_law_821, E_L_law_822, E_L_law_825, E_L_law_826, E_L_law_827, E_L_law_828, E_L_law_829, E_L_law_830, E_L_law_831, E_L_law_832, E_L_law_833, E_L_law_834, E_L_law_835, E_L_law_836, E_L_law_839, E_L_law_842, E_L_law_843, a1, a2, a3, a4, a5, v1, v2, v3, v4, v5, u1, u2, u3, u4, u5, rc_137, List.map_nil, List.map_cons, List.sum_cons, List.sum_nil, gcat_i, gcat_r, gcat_l, Nat.reduceAdd, Nat.reduceLeDiff, Nat.zero_le, Option.toList, List.cons_append, List.nil_append, gnk_i, gnk_r, gnk_n, gi_1, Nat.reduceLT, if_true, if_false]
  refine hm _ (fun s2 h2 => ?_)
  simp only [E_L_law_811, E_L_law_812, E_L_law_813, E_L_law_814, E_L_law_815, E_L_law_816, E_L_law_817, E_L_law_818, E_L_law_819, E_L_law_820, E_L_law_821, E_L_law_822, E_L_law_825, E_L_law_826, E_L_law_827, E_L_law_828, E_L_law_829, E_L_law_830, E_L_law_831, E_L_law_832, E_L_law_833, E_L_law_834, E_L_law_835, E_L_law_836, E_L_law_839, E_L_law_842, E_L_law_843, lg_cmp_self, List.map_nil, List.map_cons, List.sum_cons, List.sum_nil, gcat_i, gcat_r, gcat_l, Nat.reduceAdd, Nat.reduceLeDiff, Nat.zero_le, Option.toList, List.cons_append, List.nil_append, gnk_i, gnk_r, gnk_n, gi_1, Nat.reduceLT, if_true, if_false]
  exact hq s2 h2
theorem lw_image (h : gInv s) (hi : i + 6 ≤ w.1) (hw : w.1 < 2 ^ 31) (hq : ∀ s', gInv s' → gc_X w 41 217 1205 (lwL i) [] (gm_m s') Q) : gc_X w 41 217 844 (lwL i) [] (gm_m s) Q := by
  have a1 : nI i + 1 = nI (i + 1) := nI_add i 1
  have a2 : nI i + 2 = nI (i + 2) := nI_add i 2
  have a3 : nI i + 3 = nI (i + 3) := nI_add i 3
  have a4 : nI i + 4 = nI (i + 4) := nI_add i 4
  have a5 : nI i + 5 = nI (i + 5) := nI_add i 5
  have v : ∀ k, k < 6 → vp_in (nI (i + k)) w.1 := fun k hk => vp_in_nI (by omega) hw
  have u : ∀ k, k < 6 → (nI (i + k)).toNatClampNeg = i + k := fun k hk => nI_clamp (by omega)
  have v1 := v 1 (by omega)
  have v2 := v 2 (by omega)
  have v3 := v 3 (by omega)
  have v4 := v 4 (by omega)
  have v5 := v 5 (by omega)
  have u1 := u 1 (by omega)
  have u2 := u 2 (by omega)
  have u3 := u 3 (by omega)
  have u4 := u 4 (by omega)
  have u5 := u 5 (by omega)
  unfold lwL at hq ⊢
  simp only [E_L_law_844, E_L_law_845, E_L_law_848, E_L_law_849, E_L_law_852, E_L_law_855, E_L_law_856, a1, a2, a3, a4, a5, v1, v2, v3, v4, v5, u1, u2, u3, u4, u5, rc_0, List.map_nil, List.map_cons, List.sum_cons, List.sum_nil, gcat_i, gcat_r, gcat_l, Nat.reduceAdd, Nat.reduceLeDiff, Nat.zero_le, Option.toList, List.cons_append, List.nil_append, gnk_i, gnk_r, gnk_n, gi_1, Nat.reduceLT, if_true, if_false]
  refine lw_b (i_image h) (fun x s1 hm => ?_)
  simp only [E_L_law_844, E_L_law_845, E_L_law_848, E_L_law_849, E_L_law_852, E_L_law_855, E_L_law_856, a1, a2, a3, a4, a5, v1, v2, v3, v4, v5, u1, u2, u3, u4, u5, rc_137, List.map_nil, List.map_cons, List.sum_cons, List.sum_nil, gcat_i, gcat_r, gcat_l, Nat.reduceAdd, Nat.reduceLeDiff, Nat.zero_le, Option.toList, List.cons_append, List.nil_append, gnk_i, gnk_r, gnk_n, gi_1, Nat.reduceLT, if_true, if_false]
  refine hm _ (fun s2 h2 => ?_)
  simp only [E_L_law_844, E_L_law_845, E_L_law_848, E_L_law_849, E_L_law_852, E_L_law_855, E_L_law_856, lg_cmp_self, List.map_nil, List.map_cons, List.sum_cons, List.sum_nil, gcat_i, gcat_r, gcat_l, Nat.reduceAdd, Nat.reduceLeDiff, Nat.zero_le, Option.toList, List.cons_append, List.nil_append, gnk_i, gnk_r, gnk_n, gi_1, Nat.reduceLT, if_true, if_false]
  exact hq s2 h2
theorem lw_undo (h : gInv s) (hi : i + 6 ≤ w.1) (hw : w.1 < 2 ^ 31) (hq : ∀ s', gInv s' → gc_X w 41 217 1205 (lwL i) [] (gm_m s') Q) : gc_X w 41 217 857 (lwL i) [] (gm_m s) Q := by
  have a1 : nI i + 1 = nI (i + 1) := nI_add i 1
  have a2 : nI i + 2 = nI (i + 2) := nI_add i 2
  have a3 : nI i + 3 = nI (i + 3) := nI_add i 3
  have a4 : nI i + 4 = nI (i + 4) := nI_add i 4
  have a5 : nI i + 5 = nI (i + 5) := nI_add i 5
  have v : ∀ k, k < 6 → vp_in (nI (i + k)) w.1 := fun k hk => vp_in_nI (by omega) hw
  have u : ∀ k, k < 6 → (nI (i + k)).toNatClampNeg = i + k := fun k hk => nI_clamp (by omega)
  have v1 := v 1 (by omega)
  have v2 := v 2 (by omega)
  have v3 := v 3 (by omega)
  have v4 := v 4 (by omega)
  have v5 := v 5 (by omega)
  have u1 := u 1 (by omega)
  have u2 := u 2 (by omega)
  have u3 := u 3 (by omega)
  have u4 := u 4 (by omega)
  have u5 := u 5 (by omega)
  unfold lwL at hq ⊢
  simp only [E_L_law_857, E_L_law_858, E_L_law_861, E_L_law_862, E_L_law_865, E_L_law_868, E_L_law_869, a1, a2, a3, a4, a5, v1, v2, v3, v4, v5, u1, u2, u3, u4, u5, rc_0, List.map_nil, List.map_cons, List.sum_cons, List.sum_nil, gcat_i, gcat_r, gcat_l, Nat.reduceAdd, Nat.reduceLeDiff, Nat.zero_le, Option.toList, List.cons_append, List.nil_append, gnk_i, gnk_r, gnk_n, gi_1, Nat.reduceLT, if_true, if_false]
  refine lw_b (i_undo h) (fun x s1 hm => ?_)
  simp only [E_L_law_857, E_L_law_858, E_L_law_861, E_L_law_862, E_L_law_865, E_L_law_868, E_L_law_869, a1, a2, a3, a4, a5, v1, v2, v3, v4, v5, u1, u2, u3, u4, u5, rc_137, List.map_nil, List.map_cons, List.sum_cons, List.sum_nil, gcat_i, gcat_r, gcat_l, Nat.reduceAdd, Nat.reduceLeDiff, Nat.zero_le, Option.toList, List.cons_append, List.nil_append, gnk_i, gnk_r, gnk_n, gi_1, Nat.reduceLT, if_true, if_false]
  refine hm _ (fun s2 h2 => ?_)
  simp only [E_L_law_857, E_L_law_858, E_L_law_861, E_L_law_862, E_L_law_865, E_L_law_868, E_L_law_869, lg_cmp_self, List.map_nil, List.map_cons, List.sum_cons, List.sum_nil, gcat_i, gcat_r, gcat_l, Nat.reduceAdd, Nat.reduceLeDiff, Nat.zero_le, Option.toList, List.cons_append, List.nil_append, gnk_i, gnk_r, gnk_n, gi_1, Nat.reduceLT, if_true, if_false]
  exact hq s2 h2
theorem lw_act (h : gInv s) (hi : i + 6 ≤ w.1) (hw : w.1 < 2 ^ 31) (hq : ∀ s', gInv s' → gc_X w 41 217 1205 (lwL i) [] (gm_m s') Q) : gc_X w 41 217 870 (lwL i) [] (gm_m s) Q := by
  have a1 : nI i + 1 = nI (i + 1) := nI_add i 1
  have a2 : nI i + 2 = nI (i + 2) := nI_add i 2
  have a3 : nI i + 3 = nI (i + 3) := nI_add i 3
  have a4 : nI i + 4 = nI (i + 4) := nI_add i 4
  have a5 : nI i + 5 = nI (i + 5) := nI_add i 5
  have v : ∀ k, k < 6 → vp_in (nI (i + k)) w.1 := fun k hk => vp_in_nI (by omega) hw
  have u : ∀ k, k < 6 → (nI (i + k)).toNatClampNeg = i + k := fun k hk => nI_clamp (by omega)
  have v1 := v 1 (by omega)
  have v2 := v 2 (by omega)
  have v3 := v 3 (by omega)
  have v4 := v 4 (by omega)
  have v5 := v 5 (by omega)
  have u1 := u 1 (by omega)
  have u2 := u 2 (by omega)
  have u3 := u 3 (by omega)
  have u4 := u 4 (by omega)
  have u5 := u 5 (by omega)
  unfold lwL at hq ⊢
  simp only [E_L_law_870, E_L_law_871, E_L_law_872, E_L_law_873, E_L_law_874, E_L_law_875, E_L_law_876, E_L_law_877, E_L_law_878, E_L_law_879, E_L_law_880, E_L_law_881, E_L_law_882, E_L_law_883, E_L_law_884, E_L_law_885, E_L_law_886, E_L_law_889, E_L_law_890, E_L_law_891, E_L_law_892, E_L_law_893, E_L_law_894, E_L_law_895, E_L_law_896, E_L_law_897, E_L_law_898, E_L_law_899, E_L_law_900, E_L_law_901, E_L_law_902, E_L_law_903, E_L_law_904, E_L_law_905, E_L_law_908, E_L_law_911, E_L_law_912, a1, a2, a3, a4, a5, v1, v2, v3, v4, v5, u1, u2, u3, u4, u5, rc_0, List.map_nil, List.map_cons, List.sum_cons, List.sum_nil, gcat_i, gcat_r, gcat_l, Nat.reduceAdd, Nat.reduceLeDiff, Nat.zero_le, Option.toList, List.cons_append, List.nil_append, gnk_i, gnk_r, gnk_n, gi_1, Nat.reduceLT, if_true, if_false]
  refine lw_b (i_act h) (fun x s1 hm => ?_)
  simp only [E_L_law_870, E_L_law_871, E_L_law_872, E_L_law_873, E_L_law_874, E_L_law_875, E_L_law_876, E_L_law_877, E_L_law_878, E_L_law_879, E_L_law_880, E_L_law_881, E_L_law_882, E_L_law_883, E_L_law_884, E_L_law_885, E_L_law_886, E_L_law_889, E_L_law_890, E_L_law_891, E_L_law_892, E_L_law_893, E_L_law_894, E_L_law_895, E_L_law_896, E_L_law_897, E_L_law_898, E_L_law_899, E_L_law_900, E_L_law_901, E_L_law_902, E_L_law_903, E_L_law_904, E_L_law_905, E_L_law_908, E_L_law_911, E_L_law_912, a1, a2, a3, a4, a5, v1, v2, v3, v4, v5, u1, u2, u3, u4, u5, rc_137, List.map_nil, List.map_cons, List.sum_cons, List.sum_nil, gcat_i, gcat_r, gcat_l, Nat.reduceAdd, Nat.reduceLeDiff, Nat.zero_le, Option.toList, List.cons_append, List.nil_append, gnk_i, gnk_r, gnk_n, gi_1, Nat.reduceLT, if_true, if_false]
  refine hm _ (fun s2 h2 => ?_)
  simp only [E_L_law_870, E_L_law_871, E_L_law_872, E_L_law_873, E_L_law_874, E_L_law_875, E_L_law_876, E_L_law_877, E_L_law_878, E_L_law_879, E_L_law_880, E_L_law_881, E_L_law_882, E_L_law_883, E_L_law_884, E_L_law_885, E_L_law_886, E_L_law_889, E_L_law_890, E_L_law_891, E_L_law_892, E_L_law_893, E_L_law_894, E_L_law_895, E_L_law_896, E_L_law_897, E_L_law_898, E_L_law_899, E_L_law_900, E_L_law_901, E_L_law_902, E_L_law_903, E_L_law_904, E_L_law_905, E_L_law_908, E_L_law_911, E_L_law_912, lg_cmp_self, List.map_nil, List.map_cons, List.sum_cons, List.sum_nil, gcat_i, gcat_r, gcat_l, Nat.reduceAdd, Nat.reduceLeDiff, Nat.zero_le, Option.toList, List.cons_append, List.nil_append, gnk_i, gnk_r, gnk_n, gi_1, Nat.reduceLT, if_true, if_false]
  exact hq s2 h2
theorem lw_trace (h : gInv s) (hi : i + 6 ≤ w.1) (hw : w.1 < 2 ^ 31) (hq : ∀ s', gInv s' → gc_X w 41 217 1205 (lwL i) [] (gm_m s') Q) : gc_X w 41 217 913 (lwL i) [] (gm_m s) Q := by
  have a1 : nI i + 1 = nI (i + 1) := nI_add i 1
  have a2 : nI i + 2 = nI (i + 2) := nI_add i 2
  have a3 : nI i + 3 = nI (i + 3) := nI_add i 3
  have a4 : nI i + 4 = nI (i + 4) := nI_add i 4
  have a5 : nI i + 5 = nI (i + 5) := nI_add i 5
  have v : ∀ k, k < 6 → vp_in (nI (i + k)) w.1 := fun k hk => vp_in_nI (by omega) hw
  have u : ∀ k, k < 6 → (nI (i + k)).toNatClampNeg = i + k := fun k hk => nI_clamp (by omega)
  have v1 := v 1 (by omega)
  have v2 := v 2 (by omega)
  have v3 := v 3 (by omega)
  have v4 := v 4 (by omega)
  have v5 := v 5 (by omega)
  have u1 := u 1 (by omega)
  have u2 := u 2 (by omega)
  have u3 := u 3 (by omega)
  have u4 := u 4 (by omega)
  have u5 := u 5 (by omega)
  unfold lwL at hq ⊢
  simp only [E_L_law_913, E_L_law_914, E_L_law_915, E_L_law_916, E_L_law_917, E_L_law_918, E_L_law_919, E_L_law_922, E_L_law_923, E_L_law_924, E_L_law_925, E_L_law_926, E_L_law_927, E_L_law_928, E_L_law_931, E_L_law_934, E_L_law_935, a1, a2, a3, a4, a5, v1, v2, v3, v4, v5, u1, u2, u3, u4, u5, rc_0, List.map_nil, List.map_cons, List.sum_cons, List.sum_nil, gcat_i, gcat_r, gcat_l, Nat.reduceAdd, Nat.reduceLeDiff, Nat.zero_le, Option.toList, List.cons_append, List.nil_append, gnk_i, gnk_r, gnk_n, gi_1, Nat.reduceLT, if_true, if_false]
  refine lw_b (i_trace h) (fun x s1 hm => ?_)
  simp only [E_L_law_913, E_L_law_914, E_L_law_915, E_L_law_916, E_L_law_917, E_L_law_918, E_L_law_919, E_L_law_922, E_L_law_923, E_L_law_924, E_L_law_925, E_L_law_926, E_L_law_927, E_L_law_928, E_L_law_931, E_L_law_934, E_L_law_935, a1, a2, a3, a4, a5, v1, v2, v3, v4, v5, u1, u2, u3, u4, u5, rc_137, List.map_nil, List.map_cons, List.sum_cons, List.sum_nil, gcat_i, gcat_r, gcat_l, Nat.reduceAdd, Nat.reduceLeDiff, Nat.zero_le, Option.toList, List.cons_append, List.nil_append, gnk_i, gnk_r, gnk_n, gi_1, Nat.reduceLT, if_true, if_false]
  refine hm _ (fun s2 h2 => ?_)
  simp only [E_L_law_913, E_L_law_914, E_L_law_915, E_L_law_916, E_L_law_917, E_L_law_918, E_L_law_919, E_L_law_922, E_L_law_923, E_L_law_924, E_L_law_925, E_L_law_926, E_L_law_927, E_L_law_928, E_L_law_931, E_L_law_934, E_L_law_935, lg_cmp_self, List.map_nil, List.map_cons, List.sum_cons, List.sum_nil, gcat_i, gcat_r, gcat_l, Nat.reduceAdd, Nat.reduceLeDiff, Nat.zero_le, Option.toList, List.cons_append, List.nil_append, gnk_i, gnk_r, gnk_n, gi_1, Nat.reduceLT, if_true, if_false]
  exact hq s2 h2
theorem lw_taken (h : gInv s) (hi : i + 6 ≤ w.1) (hw : w.1 < 2 ^ 31) (hq : ∀ s', gInv s' → gc_X w 41 217 1205 (lwL i) [] (gm_m s') Q) : gc_X w 41 217 936 (lwL i) [] (gm_m s) Q := by
  have a1 : nI i + 1 = nI (i + 1) := nI_add i 1
  have a2 : nI i + 2 = nI (i + 2) := nI_add i 2
  have a3 : nI i + 3 = nI (i + 3) := nI_add i 3
  have a4 : nI i + 4 = nI (i + 4) := nI_add i 4
  have a5 : nI i + 5 = nI (i + 5) := nI_add i 5
  have v : ∀ k, k < 6 → vp_in (nI (i + k)) w.1 := fun k hk => vp_in_nI (by omega) hw
  have u : ∀ k, k < 6 → (nI (i + k)).toNatClampNeg = i + k := fun k hk => nI_clamp (by omega)
  have v1 := v 1 (by omega)
  have v2 := v 2 (by omega)
  have v3 := v 3 (by omega)
  have v4 := v 4 (by omega)
  have v5 := v 5 (by omega)
  have u1 := u 1 (by omega)
  have u2 := u 2 (by omega)
  have u3 := u 3 (by omega)
  have u4 := u 4 (by omega)
  have u5 := u 5 (by omega)
  unfold lwL at hq ⊢
  simp only [E_L_law_936, E_L_law_937, E_L_law_938, E_L_law_939, E_L_law_940, E_L_law_941, E_L_law_942, E_L_law_943, E_L_law_944, E_L_law_945, E_L_law_946, E_L_law_947, E_L_law_950, E_L_law_951, E_L_law_952, E_L_law_953, E_L_law_954, E_L_law_955, E_L_law_956, E_L_law_957, E_L_law_958, E_L_law_959, E_L_law_960, E_L_law_961, E_L_law_964, E_L_law_967, E_L_law_968, a1, a2, a3, a4, a5, v1, v2, v3, v4, v5, u1, u2, u3, u4, u5, rc_0, List.map_nil, List.map_cons, List.sum_cons, List.sum_nil, gcat_i, gcat_r, gcat_l, Nat.reduceAdd, Nat.reduceLeDiff, Nat.zero_le, Option.toList, List.cons_append, List.nil_append, gnk_i, gnk_r, gnk_n, gi_1, Nat.reduceLT, if_true, if_false]
  refine lw_b (i_taken h) (fun x s1 hm => ?_)
  simp only [E_L_law_936, E_L_law_937, E_L_law_938, E_L_law_939, E_L_law_940, E_L_law_941, E_L_law_942, E_L_law_943, E_L_law_944, E_L_law_945, E_L_law_946, E_L_law_947, E_L_law_950, E_L_law_951, E_L_law_952, E_L_law_953, E_L_law_954, E_L_law_955, E_L_law_956, E_L_law_957, E_L_law_958, E_L_law_959, E_L_law_960, E_L_law_961, E_L_law_964, E_L_law_967, E_L_law_968, a1, a2, a3, a4, a5, v1, v2, v3, v4, v5, u1, u2, u3, u4, u5, rc_137, List.map_nil, List.map_cons, List.sum_cons, List.sum_nil, gcat_i, gcat_r, gcat_l, Nat.reduceAdd, Nat.reduceLeDiff, Nat.zero_le, Option.toList, List.cons_append, List.nil_append, gnk_i, gnk_r, gnk_n, gi_1, Nat.reduceLT, if_true, if_false]
  refine hm _ (fun s2 h2 => ?_)
  simp only [E_L_law_936, E_L_law_937, E_L_law_938, E_L_law_939, E_L_law_940, E_L_law_941, E_L_law_942, E_L_law_943, E_L_law_944, E_L_law_945, E_L_law_946, E_L_law_947, E_L_law_950, E_L_law_951, E_L_law_952, E_L_law_953, E_L_law_954, E_L_law_955, E_L_law_956, E_L_law_957, E_L_law_958, E_L_law_959, E_L_law_960, E_L_law_961, E_L_law_964, E_L_law_967, E_L_law_968, lg_cmp_self, List.map_nil, List.map_cons, List.sum_cons, List.sum_nil, gcat_i, gcat_r, gcat_l, Nat.reduceAdd, Nat.reduceLeDiff, Nat.zero_le, Option.toList, List.cons_append, List.nil_append, gnk_i, gnk_r, gnk_n, gi_1, Nat.reduceLT, if_true, if_false]
  exact hq s2 h2
theorem lw_count (h : gInv s) (hi : i + 6 ≤ w.1) (hw : w.1 < 2 ^ 31) (hq : ∀ s', gInv s' → gc_X w 41 217 1205 (lwL i) [] (gm_m s') Q) : gc_X w 41 217 969 (lwL i) [] (gm_m s) Q := by
  have a1 : nI i + 1 = nI (i + 1) := nI_add i 1
  have a2 : nI i + 2 = nI (i + 2) := nI_add i 2
  have a3 : nI i + 3 = nI (i + 3) := nI_add i 3
  have a4 : nI i + 4 = nI (i + 4) := nI_add i 4
  have a5 : nI i + 5 = nI (i + 5) := nI_add i 5
  have v : ∀ k, k < 6 → vp_in (nI (i + k)) w.1 := fun k hk => vp_in_nI (by omega) hw
  have u : ∀ k, k < 6 → (nI (i + k)).toNatClampNeg = i + k := fun k hk => nI_clamp (by omega)
  have v1 := v 1 (by omega)
  have v2 := v 2 (by omega)
  have v3 := v 3 (by omega)
  have v4 := v 4 (by omega)
  have v5 := v 5 (by omega)
  have u1 := u 1 (by omega)
  have u2 := u 2 (by omega)
  have u3 := u 3 (by omega)
  have u4 := u 4 (by omega)
  have u5 := u 5 (by omega)
  unfold lwL at hq ⊢
  simp only [E_L_law_969, E_L_law_970, E_L_law_971, E_L_law_972, E_L_law_973, E_L_law_974, E_L_law_975, E_L_law_978, E_L_law_979, E_L_law_980, E_L_law_981, E_L_law_982, E_L_law_983, E_L_law_984, E_L_law_987, E_L_law_990, E_L_law_991, a1, a2, a3, a4, a5, v1, v2, v3, v4, v5, u1, u2, u3, u4, u5, rc_0, List.map_nil, List.map_cons, List.sum_cons, List.sum_nil, gcat_i, gcat_r, gcat_l, Nat.reduceAdd, Nat.reduceLeDiff, Nat.zero_le, Option.toList, List.cons_append, List.nil_append, gnk_i, gnk_r, gnk_n, gi_1, Nat.reduceLT, if_true, if_false]
  refine lw_b (i_count h) (fun x s1 hm => ?_)
  simp only [E_L_law_969, E_L_law_970, E_L_law_971, E_L_law_972, E_L_law_973, E_L_law_974, E_L_law_975, E_L_law_978, E_L_law_979, E_L_law_980, E_L_law_981, E_L_law_982, E_L_law_983, E_L_law_984, E_L_law_987, E_L_law_990, E_L_law_991, a1, a2, a3, a4, a5, v1, v2, v3, v4, v5, u1, u2, u3, u4, u5, rc_137, List.map_nil, List.map_cons, List.sum_cons, List.sum_nil, gcat_i, gcat_r, gcat_l, Nat.reduceAdd, Nat.reduceLeDiff, Nat.zero_le, Option.toList, List.cons_append, List.nil_append, gnk_i, gnk_r, gnk_n, gi_1, Nat.reduceLT, if_true, if_false]
  refine hm _ (fun s2 h2 => ?_)
  simp only [E_L_law_969, E_L_law_970, E_L_law_971, E_L_law_972, E_L_law_973, E_L_law_974, E_L_law_975, E_L_law_978, E_L_law_979, E_L_law_980, E_L_law_981, E_L_law_982, E_L_law_983, E_L_law_984, E_L_law_987, E_L_law_990, E_L_law_991, lg_cmp_self, List.map_nil, List.map_cons, List.sum_cons, List.sum_nil, gcat_i, gcat_r, gcat_l, Nat.reduceAdd, Nat.reduceLeDiff, Nat.zero_le, Option.toList, List.cons_append, List.nil_append, gnk_i, gnk_r, gnk_n, gi_1, Nat.reduceLT, if_true, if_false]
  exact hq s2 h2
theorem lw_tape (h : gInv s) (hi : i + 6 ≤ w.1) (hw : w.1 < 2 ^ 31) (hq : ∀ s', gInv s' → gc_X w 41 217 1205 (lwL i) [] (gm_m s') Q) : gc_X w 41 217 992 (lwL i) [] (gm_m s) Q := by
  have a1 : nI i + 1 = nI (i + 1) := nI_add i 1
  have a2 : nI i + 2 = nI (i + 2) := nI_add i 2
  have a3 : nI i + 3 = nI (i + 3) := nI_add i 3
  have a4 : nI i + 4 = nI (i + 4) := nI_add i 4
  have a5 : nI i + 5 = nI (i + 5) := nI_add i 5
  have v : ∀ k, k < 6 → vp_in (nI (i + k)) w.1 := fun k hk => vp_in_nI (by omega) hw
  have u : ∀ k, k < 6 → (nI (i + k)).toNatClampNeg = i + k := fun k hk => nI_clamp (by omega)
  have v1 := v 1 (by omega)
  have v2 := v 2 (by omega)
  have v3 := v 3 (by omega)
  have v4 := v 4 (by omega)
  have v5 := v 5 (by omega)
  have u1 := u 1 (by omega)
  have u2 := u 2 (by omega)
  have u3 := u 3 (by omega)
  have u4 := u 4 (by omega)
  have u5 := u 5 (by omega)
  unfold lwL at hq ⊢
  simp only [E_L_law_992, E_L_law_993, E_L_law_994, E_L_law_995, E_L_law_996, E_L_law_997, E_L_law_998, E_L_law_999, E_L_law_1000, E_L_law_1001, E_L_law_1002, E_L_law_1003, E_L_law_1004, E_L_law_1005, E_L_law_1006, E_L_law_1007, E_L_law_1008, E_L_law_1011, E_L_law_1012, E_L_law_1013, E_L_law_1014, E_L_law_1015, E_L_law_1016, E_L_law_1017, E_L_law_1018, E_L_law_1019, E_L_law_1020, E_L_law_1021, E_L_law_1022, E_L_law_1023, E_L_law_1024, E_L_law_1025, E_L_law_1026, E_L_law_1027, E_L_law_1030, E_L_law_1033, E_L_law_1034, a1, a2, a3, a4, a5, v1, v2, v3, v4, v5, u1, u2, u3, u4, u5, rc_0, List.map_nil, List.map_cons, List.sum_cons, List.sum_nil, gcat_i, gcat_r, gcat_l, Nat.reduceAdd, Nat.reduceLeDiff, Nat.zero_le, Option.toList, List.cons_append, List.nil_append, gnk_i, gnk_r, gnk_n, gi_1, Nat.reduceLT, if_true, if_false]
  refine lw_b (i_tape h) (fun x s1 hm => ?_)
  simp only [E_L_law_992, E_L_law_993, E_L_law_994, E_L_law_995, E_L_law_996, E_L_law_997, E_L_law_998, E_L_law_999, E_L_law_1000, E_L_law_1001, E_L_law_1002, E_L_law_1003, E_L_law_1004, E_L_law_1005, E_L_law_1006, E_L_law_1007, E_L_law_1008, E_L_law_1011, E_L_law_1012, E_L_law_1013, E_L_law_1014, E_L_law_1015, E_L_law_1016, E_L_law_1017, E_L_law_1018, E_L_law_1019, E_L_law_1020, E_L_law_1021, E_L_law_1022, E_L_law_1023, E_L_law_1024, E_L_law_1025, E_L_law_1026, E_L_law_1027, E_L_law_1030, E_L_law_1033, E_L_law_1034, a1, a2, a3, a4, a5, v1, v2, v3, v4, v5, u1, u2, u3, u4, u5, rc_137, List.map_nil, List.map_cons, List.sum_cons, List.sum_nil, gcat_i, gcat_r, gcat_l, Nat.reduceAdd, Nat.reduceLeDiff, Nat.zero_le, Option.toList, List.cons_append, List.nil_append, gnk_i, gnk_r, gnk_n, gi_1, Nat.reduceLT, if_true, if_false]
  refine hm _ (fun s2 h2 => ?_)
  simp only [E_L_law_992, E_L_law_993, E_L_law_994, E_L_law_995, E_L_law_996, E_L_law_997, E_L_law_998, E_L_law_999, E_L_law_1000, E_L_law_1001, E_L_law_1002, E_L_law_1003, E_L_law_1004, E_L_law_1005, E_L_law_1006, E_L_law_1007, E_L_law_1008, E_L_law_1011, E_L_law_1012, E_L_law_1013, E_L_law_1014, E_L_law_1015, E_L_law_1016, E_L_law_1017, E_L_law_1018, E_L_law_1019, E_L_law_1020, E_L_law_1021, E_L_law_1022, E_L_law_1023, E_L_law_1024, E_L_law_1025, E_L_law_1026, E_L_law_1027, E_L_law_1030, E_L_law_1033, E_L_law_1034, lg_cmp_self, List.map_nil, List.map_cons, List.sum_cons, List.sum_nil, gcat_i, gcat_r, gcat_l, Nat.reduceAdd, Nat.reduceLeDiff, Nat.zero_le, Option.toList, List.cons_append, List.nil_append, gnk_i, gnk_r, gnk_n, gi_1, Nat.reduceLT, if_true, if_false]
  exact hq s2 h2
theorem lw_item (h : gInv s) (hi : i + 6 ≤ w.1) (hw : w.1 < 2 ^ 31) (hq : ∀ s', gInv s' → gc_X w 41 217 1205 (lwL i) [] (gm_m s') Q) : gc_X w 41 217 1035 (lwL i) [] (gm_m s) Q := by
  have a1 : nI i + 1 = nI (i + 1) := nI_add i 1
  have a2 : nI i + 2 = nI (i + 2) := nI_add i 2
  have a3 : nI i + 3 = nI (i + 3) := nI_add i 3
  have a4 : nI i + 4 = nI (i + 4) := nI_add i 4
  have a5 : nI i + 5 = nI (i + 5) := nI_add i 5
  have v : ∀ k, k < 6 → vp_in (nI (i + k)) w.1 := fun k hk => vp_in_nI (by omega) hw
  have u : ∀ k, k < 6 → (nI (i + k)).toNatClampNeg = i + k := fun k hk => nI_clamp (by omega)
  have v1 := v 1 (by omega)
  have v2 := v 2 (by omega)
  have v3 := v 3 (by omega)
  have v4 := v 4 (by omega)
  have v5 := v 5 (by omega)
  have u1 := u 1 (by omega)
  have u2 := u 2 (by omega)
  have u3 := u 3 (by omega)
  have u4 := u 4 (by omega)
  have u5 := u 5 (by omega)
  unfold lwL at hq ⊢
  simp only [E_L_law_1035, E_L_law_1036, E_L_law_1037, E_L_law_1038, E_L_law_1039, E_L_law_1040, E_L_law_1041, E_L_law_1042, E_L_law_1043, E_L_law_1044, E_L_law_1045, E_L_law_1046, E_L_law_1047, E_L_law_1048, E_L_law_1049, E_L_law_1050, E_L_law_1051, E_L_law_1052, E_L_law_1054, E_L_law_1055, E_L_law_1056, E_L_law_1057, E_L_law_1058, E_L_law_1059, E_L_law_1060, E_L_law_1061, E_L_law_1064, E_L_law_1065, E_L_law_1066, E_L_law_1069, E_L_law_1070, E_L_law_1071, E_L_law_1072, E_L_law_1073, E_L_law_1074, E_L_law_1075, E_L_law_1076, E_L_law_1077, E_L_law_1078, E_L_law_1079, E_L_law_1080, E_L_law_1081, E_L_law_1082, E_L_law_1083, E_L_law_1084, E_L_law_1085, E_L_law_1086, E_L_law_1088, E_L_law_1089, E_L_law_1090, E_L_law_1091, E_L_law_1092, E_L_law_1093, E_L_law_1094, E_L_law_1095, E_L_law_1098, E_L_law_1099, E_L_law_1100, E_L_law_1103, E_L_law_1106, E_L_law_1107, a1, a2, a3, a4, a5, v1, v2, v3, v4, v5, u1, u2, u3, u4, u5, rc_0, List.map_nil, List.map_cons, List.sum_cons, List.sum_nil, gcat_i, gcat_r, gcat_l, Nat.reduceAdd, Nat.reduceLeDiff, Nat.zero_le, Option.toList, List.cons_append, List.nil_append, gnk_i, gnk_r, gnk_n, gi_1, Nat.reduceLT, if_true, if_false]
  refine lw_b (i_item h) (fun x s1 hm => ?_)
  simp only [E_L_law_1035, E_L_law_1036, E_L_law_1037, E_L_law_1038, E_L_law_1039, E_L_law_1040, E_L_law_1041, E_L_law_1042, E_L_law_1043, E_L_law_1044, E_L_law_1045, E_L_law_1046, E_L_law_1047, E_L_law_1048, E_L_law_1049, E_L_law_1050, E_L_law_1051, E_L_law_1052, E_L_law_1054, E_L_law_1055, E_L_law_1056, E_L_law_1057, E_L_law_1058, E_L_law_1059, E_L_law_1060, E_L_law_1061, E_L_law_1064, E_L_law_1065, E_L_law_1066, E_L_law_1069, E_L_law_1070, E_L_law_1071, E_L_law_1072, E_L_law_1073, E_L_law_1074, E_L_law_1075, E_L_law_1076, E_L_law_1077, E_L_law_1078, E_L_law_1079, E_L_law_1080, E_L_law_1081, E_L_law_1082, E_L_law_1083, E_L_law_1084, E_L_law_1085, E_L_law_1086, E_L_law_1088, E_L_law_1089, E_L_law_1090, E_L_law_1091, E_L_law_1092, E_L_law_1093, E_L_law_1094, E_L_law_1095, E_L_law_1098, E_L_law_1099, E_L_law_1100, E_L_law_1103, E_L_law_1106, E_L_law_1107, a1, a2, a3, a4, a5, v1, v2, v3, v4, v5, u1, u2, u3, u4, u5, rc_137, List.map_nil, List.map_cons, List.sum_cons, List.sum_nil, gcat_i, gcat_r, gcat_l, Nat.reduceAdd, Nat.reduceLeDiff, Nat.zero_le, Option.toList, List.cons_append, List.nil_append, gnk_i, gnk_r, gnk_n, gi_1, Nat.reduceLT, if_true, if_false]
  refine hm _ (fun s2 h2 => ?_)
  simp only [E_L_law_1035, E_L_law_1036, E_L_law_1037, E_L_law_1038, E_L_law_1039, E_L_law_1040, E_L_law_1041, E_L_law_1042, E_L_law_1043, E_L_law_1044, E_L_law_1045, E_L_law_1046, E_L_law_1047, E_L_law_1048, E_L_law_1049, E_L_law_1050, E_L_law_1051, E_L_law_1052, E_L_law_1054, E_L_law_1055, E_L_law_1056, E_L_law_1057, E_L_law_1058, E_L_law_1059, E_L_law_1060, E_L_law_1061, E_L_law_1064, E_L_law_1065, E_L_law_1066, E_L_law_1069, E_L_law_1070, E_L_law_1071, E_L_law_1072, E_L_law_1073, E_L_law_1074, E_L_law_1075, E_L_law_1076, E_L_law_1077, E_L_law_1078, E_L_law_1079, E_L_law_1080, E_L_law_1081, E_L_law_1082, E_L_law_1083, E_L_law_1084, E_L_law_1085, E_L_law_1086, E_L_law_1088, E_L_law_1089, E_L_law_1090, E_L_law_1091, E_L_law_1092, E_L_law_1093, E_L_law_1094, E_L_law_1095, E_L_law_1098, E_L_law_1099, E_L_law_1100, E_L_law_1103, E_L_law_1106, E_L_law_1107, lg_cmp_self, List.map_nil, List.map_cons, List.sum_cons, List.sum_nil, gcat_i, gcat_r, gcat_l, Nat.reduceAdd, Nat.reduceLeDiff, Nat.zero_le, Option.toList, List.cons_append, List.nil_append, gnk_i, gnk_r, gnk_n, gi_1, Nat.reduceLT, if_true, if_false]
  exact hq s2 h2
theorem lw_read (h : gInv s) (hi : i + 6 ≤ w.1) (hw : w.1 < 2 ^ 31) (hq : ∀ s', gInv s' → gc_X w 41 217 1205 (lwL i) [] (gm_m s') Q) : gc_X w 41 217 1108 (lwL i) [] (gm_m s) Q := by
  have a1 : nI i + 1 = nI (i + 1) := nI_add i 1
  have a2 : nI i + 2 = nI (i + 2) := nI_add i 2
  have a3 : nI i + 3 = nI (i + 3) := nI_add i 3
  have a4 : nI i + 4 = nI (i + 4) := nI_add i 4
  have a5 : nI i + 5 = nI (i + 5) := nI_add i 5
  have v : ∀ k, k < 6 → vp_in (nI (i + k)) w.1 := fun k hk => vp_in_nI (by omega) hw
  have u : ∀ k, k < 6 → (nI (i + k)).toNatClampNeg = i + k := fun k hk => nI_clamp (by omega)
  have v1 := v 1 (by omega)
  have v2 := v 2 (by omega)
  have v3 := v 3 (by omega)
  have v4 := v 4 (by omega)
  have v5 := v 5 (by omega)
  have u1 := u 1 (by omega)
  have u2 := u 2 (by omega)
  have u3 := u 3 (by omega)
  have u4 := u 4 (by omega)
  have u5 := u 5 (by omega)
  unfold lwL at hq ⊢
  simp only [E_L_law_1108, E_L_law_1109, E_L_law_1110, E_L_law_1111, E_L_law_1112, E_L_law_1113, E_L_law_1114, E_L_law_1115, E_L_law_1116, E_L_law_1117, E_L_law_1118, E_L_law_1119, E_L_law_1122, E_L_law_1123, E_L_law_1124, E_L_law_1125, E_L_law_1126, E_L_law_1127, E_L_law_1128, E_L_law_1129, E_L_law_1130, E_L_law_1131, E_L_law_1132, E_L_law_1133, E_L_law_1136, E_L_law_1137, E_L_law_1140, E_L_law_1141, a1, a2, a3, a4, a5, v1, v2, v3, v4, v5, u1, u2, u3, u4, u5, rc_0, List.map_nil, List.map_cons, List.sum_cons, List.sum_nil, gcat_i, gcat_r, gcat_l, Nat.reduceAdd, Nat.reduceLeDiff, Nat.zero_le, Option.toList, List.cons_append, List.nil_append, gnk_i, gnk_r, gnk_n, gi_1, Nat.reduceLT, if_true, if_false]
  refine lw_l (i_read h) (fun x s1 hm => ?_)
  simp only [E_L_law_1108, E_L_law_1109, E_L_law_1110, E_L_law_1111, E_L_law_1112, E_L_law_1113, E_L_law_1114, E_L_law_1115, E_L_law_1116, E_L_law_1117, E_L_law_1118, E_L_law_1119, E_L_law_1122, E_L_law_1123, E_L_law_1124, E_L_law_1125, E_L_law_1126, E_L_law_1127, E_L_law_1128, E_L_law_1129, E_L_law_1130, E_L_law_1131, E_L_law_1132, E_L_law_1133, E_L_law_1136, E_L_law_1137, E_L_law_1140, E_L_law_1141, a1, a2, a3, a4, a5, v1, v2, v3, v4, v5, u1, u2, u3, u4, u5, rc_137, List.map_nil, List.map_cons, List.sum_cons, List.sum_nil, gcat_i, gcat_r, gcat_l, Nat.reduceAdd, Nat.reduceLeDiff, Nat.zero_le, Option.toList, List.cons_append, List.nil_append, gnk_i, gnk_r, gnk_n, gi_1, Nat.reduceLT, if_true, if_false]
  refine hm _ (fun s2 h2 => ?_)
  simp only [E_L_law_1108, E_L_law_1109, E_L_law_1110, E_L_law_1111, E_L_law_1112, E_L_law_1113, E_L_law_1114, E_L_law_1115, E_L_law_1116, E_L_law_1117, E_L_law_1118, E_L_law_1119, E_L_law_1122, E_L_law_1123, E_L_law_1124, E_L_law_1125, E_L_law_1126, E_L_law_1127, E_L_law_1128, E_L_law_1129, E_L_law_1130, E_L_law_1131, E_L_law_1132, E_L_law_1133, E_L_law_1136, E_L_law_1137, E_L_law_1140, E_L_law_1141, lg_cmp_self, List.map_nil, List.map_cons, List.sum_cons, List.sum_nil, gcat_i, gcat_r, gcat_l, Nat.reduceAdd, Nat.reduceLeDiff, Nat.zero_le, Option.toList, List.cons_append, List.nil_append, gnk_i, gnk_r, gnk_n, gi_1, Nat.reduceLT, if_true, if_false]
  exact hq s2 h2
theorem lw_shift (h : gInv s) (hi : i + 6 ≤ w.1) (hw : w.1 < 2 ^ 31) (hq : ∀ s', gInv s' → gc_X w 41 217 1205 (lwL i) [] (gm_m s') Q) : gc_X w 41 217 1142 (lwL i) [] (gm_m s) Q := by
  have a1 : nI i + 1 = nI (i + 1) := nI_add i 1
  have a2 : nI i + 2 = nI (i + 2) := nI_add i 2
  have a3 : nI i + 3 = nI (i + 3) := nI_add i 3
  have a4 : nI i + 4 = nI (i + 4) := nI_add i 4
  have a5 : nI i + 5 = nI (i + 5) := nI_add i 5
  have v : ∀ k, k < 6 → vp_in (nI (i + k)) w.1 := fun k hk => vp_in_nI (by omega) hw
  have u : ∀ k, k < 6 → (nI (i + k)).toNatClampNeg = i + k := fun k hk => nI_clamp (by omega)
  have v1 := v 1 (by omega)
  have v2 := v 2 (by omega)
  have v3 := v 3 (by omega)
  have v4 := v 4 (by omega)
  have v5 := v 5 (by omega)
  have u1 := u 1 (by omega)
  have u2 := u 2 (by omega)
  have u3 := u 3 (by omega)
  have u4 := u 4 (by omega)
  have u5 := u 5 (by omega)
  unfold lwL at hq ⊢
  simp only [E_L_law_1142, E_L_law_1143, E_L_law_1144, E_L_law_1145, E_L_law_1146, E_L_law_1147, E_L_law_1148, E_L_law_1149, E_L_law_1150, E_L_law_1151, E_L_law_1152, E_L_law_1153, E_L_law_1154, E_L_law_1155, E_L_law_1156, E_L_law_1157, E_L_law_1158, E_L_law_1159, E_L_law_1160, E_L_law_1161, E_L_law_1162, E_L_law_1163, E_L_law_1164, E_L_law_1165, E_L_law_1166, E_L_law_1167, E_L_law_1168, E_L_law_1171, E_L_law_1172, E_L_law_1173, E_L_law_1174, E_L_law_1175, E_L_law_1176, E_L_law_1177, E_L_law_1178, E_L_law_1179, E_L_law_1180, E_L_law_1181, E_L_law_1182, E_L_law_1183, E_L_law_1184, E_L_law_1185, E_L_law_1186, E_L_law_1187, E_L_law_1188, E_L_law_1189, E_L_law_1190, E_L_law_1191, E_L_law_1192, E_L_law_1193, E_L_law_1194, E_L_law_1195, E_L_law_1196, E_L_law_1197, E_L_law_1200, E_L_law_1203, E_L_law_1204, a1, a2, a3, a4, a5, v1, v2, v3, v4, v5, u1, u2, u3, u4, u5, rc_0, List.map_nil, List.map_cons, List.sum_cons, List.sum_nil, gcat_i, gcat_r, gcat_l, Nat.reduceAdd, Nat.reduceLeDiff, Nat.zero_le, Option.toList, List.cons_append, List.nil_append, gnk_i, gnk_r, gnk_n, gi_1, Nat.reduceLT, if_true, if_false]
  refine lw_b (i_shift h) (fun x s1 hm => ?_)
  simp only [E_L_law_1142, E_L_law_1143, E_L_law_1144, E_L_law_1145, E_L_law_1146, E_L_law_1147, E_L_law_1148, E_L_law_1149, E_L_law_1150, E_L_law_1151, E_L_law_1152, E_L_law_1153, E_L_law_1154, E_L_law_1155, E_L_law_1156, E_L_law_1157, E_L_law_1158, E_L_law_1159, E_L_law_1160, E_L_law_1161, E_L_law_1162, E_L_law_1163, E_L_law_1164, E_L_law_1165, E_L_law_1166, E_L_law_1167, E_L_law_1168, E_L_law_1171, E_L_law_1172, E_L_law_1173, E_L_law_1174, E_L_law_1175, E_L_law_1176, E_L_law_1177, E_L_law_1178, E_L_law_1179, E_L_law_1180, E_L_law_1181, E_L_law_1182, E_L_law_1183, E_L_law_1184, E_L_law_1185, E_L_law_1186, E_L_law_1187, E_L_law_1188, E_L_law_1189, E_L_law_1190, E_L_law_1191, E_L_law_1192, E_L_law_1193, E_L_law_1194, E_L_law_1195, E_L_law_1196, E_L_law_1197, E_L_law_1200, E_L_law_1203, E_L_law_1204, a1, a2, a3, a4, a5, v1, v2, v3, v4, v5, u1, u2, u3, u4, u5, rc_137, List.map_nil, List.map_cons, List.sum_cons, List.sum_nil, gcat_i, gcat_r, gcat_l, Nat.reduceAdd, Nat.reduceLeDiff, Nat.zero_le, Option.toList, List.cons_append, List.nil_append, gnk_i, gnk_r, gnk_n, gi_1, Nat.reduceLT, if_true, if_false]
  refine hm _ (fun s2 h2 => ?_)
  simp only [E_L_law_1142, E_L_law_1143, E_L_law_1144, E_L_law_1145, E_L_law_1146, E_L_law_1147, E_L_law_1148, E_L_law_1149, E_L_law_1150, E_L_law_1151, E_L_law_1152, E_L_law_1153, E_L_law_1154, E_L_law_1155, E_L_law_1156, E_L_law_1157, E_L_law_1158, E_L_law_1159, E_L_law_1160, E_L_law_1161, E_L_law_1162, E_L_law_1163, E_L_law_1164, E_L_law_1165, E_L_law_1166, E_L_law_1167, E_L_law_1168, E_L_law_1171, E_L_law_1172, E_L_law_1173, E_L_law_1174, E_L_law_1175, E_L_law_1176, E_L_law_1177, E_L_law_1178, E_L_law_1179, E_L_law_1180, E_L_law_1181, E_L_law_1182, E_L_law_1183, E_L_law_1184, E_L_law_1185, E_L_law_1186, E_L_law_1187, E_L_law_1188, E_L_law_1189, E_L_law_1190, E_L_law_1191, E_L_law_1192, E_L_law_1193, E_L_law_1194, E_L_law_1195, E_L_law_1196, E_L_law_1197, E_L_law_1200, E_L_law_1203, E_L_law_1204, lg_cmp_self, List.map_nil, List.map_cons, List.sum_cons, List.sum_nil, gcat_i, gcat_r, gcat_l, Nat.reduceAdd, Nat.reduceLeDiff, Nat.zero_le, Option.toList, List.cons_append, List.nil_append, gnk_i, gnk_r, gnk_n, gi_1, Nat.reduceLT, if_true, if_false]
  exact hq s2 h2
end
