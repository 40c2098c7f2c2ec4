/-! both sides: image, undo, put together -/
theorem mL_eq9 {l l' : Int32} (h : mL 9999 l l') : l = l' := by
  rcases h with ⟨-, e⟩ | ⟨e, -⟩
  · exact e
  · exact absurd e (by decide)
section
variable {w : Nat × (Nat → Int32)} {s : gm_S}
theorem i_image (h : gInv s) : gBoth w 88 184 [some (.ref 0)] [some (.ref 137), none] s := by
  obtain ⟨φ, p, cu, cs, f, l1, l2, l3, h⟩ := gInv_I h
  have hk := gI_ok h
  have hR := gI_R h
  obtain ⟨h1, h2, h3, h4, ⟨n, b, h5⟩, ⟨o, tr, h6⟩, h7⟩ := h
  obtain ⟨⟨x1, x2, x3⟩, ⟨y1, y2, y3⟩, ⟨z1, z2, z3⟩⟩ := id h3
  have hf := kCu_f h2.1 h1.2.2.1
  obtain ⟨⟨r0, r1, r2, r3, r4, r5⟩, rF, r31, rL, -⟩ := h2.2.2.2
  unfold gBoth
  refine cIm_c (d := 39) hR hk x1 y1 z1 (fun s1 P1 => ⟨s1, rfl, ?_⟩)
  obtain ⟨p22, p21, pfr, pR, pS, pP, pB, p9⟩ := P1
  refine mIm_all (fun s2 P2 => ?_)
  obtain ⟨q2, qfr, ⟨a48, a49, a50, a51, a52, a53, a54, a55⟩, c170, c171, c172, c173, c174, c175, c176, c177, c178, c179, c185, c186, c180, c181, c182, c183, c184⟩ := P2
  have fr : ∀ b j, ¬ ((119 ≤ b ∧ b ≤ 136) ∨ (5 ≤ b ∧ b ≤ 8) ∨ (13 ≤ b ∧ b ≤ 16) ∨ (21 ≤ b ∧ b ≤ 24) ∨ (b = 0 ∧ j = 9) ∨ (b = 137 ∧ 48 ≤ j ∧ j ≤ 55) ∨ (170 ≤ b ∧ b ≤ 186)) → s2.1 b j = s.1 b j := fun b j q => (qfr b j (by omega)).trans (pfr b j (by omega))
  have e0 : s2.1 137 0 = nI p.1.2.1 := (fr _ _ (by omega)).trans r0
  simp only [E_X12_image_347, E_X12_image_348, E_X12_image_351, rk_137, rg_137_0, e0, List.map_nil, List.map_cons, List.sum_cons, List.sum_nil, gcat_i, gcat_r, gcat_l, Nat.reduceAdd, Nat.reduceLeDiff, Nat.zero_le, Option.toList, List.cons_append, List.nil_append, gnk_i, gnk_r, gnk_n, gi_1, Nat.reduceLT, if_true, if_false]
  refine ⟨s2, rfl, (by first | exact trivial | rfl), ⟨_, rfl⟩, ⟨⟨φ, p, cu, cs, f, l1, l2, l3, kFi_cg h1 (fun b j q => fr b j (by omega)), kYd_cg h2 h1.2.2.1 (by rw [q2]; exact p21 83 1 (by decide)) (fun b j q => fr b j (by omega)), kLs_cg h3 (fun b j q => fr b j (by omega)), Or.inr ⟨(qfr _ _ (by omega)).trans p9, a48, p, cu, cs, f, l1, l2, l3, h2.1, h2.2.1, gR_cg pR hk.1 (by rw [q2]) (fun b j q => qfr b j (by omega)), ⟨?_, ?_, ?_, ?_, fun k hk4 => ?_, fun c hc => ⟨?_, ?_, ?_, fun k hk4 => ?_⟩, fun t ht => ⟨?_, ?_, ?_, ?_, ?_⟩⟩, ⟨cSx_cg pS (fun c j a b => qfr c j (by omega)), ⟨?_, x2.2.1, fun i r hr => ?_⟩, x3⟩, ⟨cPx_cg pP (fun c j a b => qfr c j (by omega)), ⟨?_, y2.2.1, fun i r hr => ?_⟩, y3⟩, ⟨cBx_cg pB (fun c j a b => qfr c j (by omega)), ⟨?_, z2.2.1, fun i r hr => ?_⟩, z3⟩⟩⟩, ⟨n, b, kTx_cg h5 (fun b j q => fr b j (by omega))⟩, ⟨o, tr, kAc_cg h6 (by rw [q2]; exact p21 0 15 (by decide)) (fun b j q => fr b j (by omega))⟩, kTp_cg h7 (fun b j q => by rw [q2, p22]) (fun b j q => fr b j (by omega))⟩⟩
  · rw [a49, pfr _ _ (by omega)]
    cases cu with
    | none => exact rF.1
    | some k => exact rF.1
  · rw [a50, pfr _ _ (by omega)]
    exact r0
  · rw [a51, pfr _ _ (by omega)]
    exact r1
  · rw [a52, pfr _ _ (by omega)]
    exact r2
  · rw [c170 k hk4, pfr _ _ (by omega)]
    exact r3 k hk4
  · rw [c171 c (by have := hk.1; omega), pfr _ _ (by omega)]
    exact (r4 c hc).1
  · rw [c172 c (by have := hk.1; omega), pfr _ _ (by omega)]
    exact (r4 c hc).2.1
  · rw [c173 c (by have := hk.1; omega), pfr _ _ (by omega)]
    exact mL_eq9 (rL c hc)
  · rw [c174 _ (by have := hk.1; omega), pfr _ _ (by omega)]
    exact (r4 c hc).2.2 k hk4
  · rw [c175 t (by have := hk.2.1; omega), pfr _ _ (by omega)]
    exact (r5 t ht).1
  · rw [c176 t (by have := hk.2.1; omega), pfr _ _ (by omega)]
    exact (r5 t ht).2.1
  · rw [c177 t (by have := hk.2.1; omega), pfr _ _ (by omega)]
    exact (r5 t ht).2.2.1
  · rw [c178 t (by have := hk.2.1; omega), pfr _ _ (by omega)]
    exact (r5 t ht).2.2.2.1
  · rw [c179 t (by have := hk.2.1; omega), pfr _ _ (by omega)]
    exact (r5 t ht).2.2.2.2
  · rw [a53, pfr _ _ (by omega)]
    exact x2.1
  · have hi : i < 5 := by
      obtain ⟨q, -⟩ := List.getElem?_eq_some_iff.mp hr
      have := x2.2.1
      omega
    obtain ⟨a, b, c⟩ := x2.2.2 i r hr
    exact ⟨by rw [c180 i hi, pfr _ _ (by omega)]; exact a, by rw [c181 i hi, pfr _ _ (by omega)]; exact b, by rw [c182 i hi, pfr _ _ (by omega)]; exact c⟩
  · rw [a54, pfr _ _ (by omega)]
    exact y2.1
  · have hi : i < 10 := by
      obtain ⟨q, -⟩ := List.getElem?_eq_some_iff.mp hr
      have := y2.2.1
      omega
    obtain ⟨a, b⟩ := y2.2.2 i r hr
    exact ⟨by rw [c183 i hi, pfr _ _ (by omega)]; exact a, by rw [c184 i hi, pfr _ _ (by omega)]; exact b⟩
  · rw [a55, pfr _ _ (by omega)]
    exact z2.1
  · have hi : i < 8 := by
      obtain ⟨q, -⟩ := List.getElem?_eq_some_iff.mp hr
      have := z2.2.1
      omega
    obtain ⟨a, b⟩ := z2.2.2 i r hr
    exact ⟨by rw [c185 i hi, pfr _ _ (by omega)]; exact a, by rw [c186 i hi, pfr _ _ (by omega)]; exact b⟩
theorem i_undo (h : gInv s) : gBoth w 89 185 [some (.ref 0)] [some (.ref 137), none] s := by
  have h0 := h
  obtain ⟨φ, p0, cu0, cs0, f0, l10, l20, l30, h⟩ := gInv_I h
  obtain ⟨h1, h2, h3, h4, ⟨n, b, h5⟩, ⟨o, tr, h6⟩, h7⟩ := h
  rcases id h4 with ⟨e9, e48⟩ | ⟨e9, e48, p, cu, cs, f, l1, l2, l3, k1, k2, hR, k4, ⟨x1, x2, x3⟩, ⟨y1, y2, y3⟩, ⟨z1, z2, z3⟩⟩
  · refine i_no h0 (-3) (fun Q => ?_) (fun Q => ?_)
    · simp (decide := true) only [E_X11_undo_0, E_X11_undo_1, E_X11_undo_4, E_X11_undo_7, E_X11_undo_9, E_X11_undo_10, E_X11_undo_11, E_X11_undo_14, E_X11_undo_15, E_X11_undo_18, E_X11_undo_21, E_X11_undo_22, E_X11_undo_25, E_X11_undo_26, E_X11_undo_29, E_X11_undo_32, E_X11_undo_33, E_X11_undo_36, E_X11_undo_37, E_X11_undo_40, E_X11_undo_43, E_X11_undo_44, E_X11_undo_47, E_X11_undo_48, E_X11_undo_51, E_X11_undo_54, E_X11_undo_55, E_X11_undo_58, E_X11_undo_61, rk_0, rg_0_9, e9, List.map_nil, List.map_cons, List.sum_cons, List.sum_nil, gcat_i, gcat_r, gcat_l, Nat.reduceAdd, Nat.reduceLeDiff, Nat.zero_le, Option.toList, List.cons_append, List.nil_append, gnk_i, gnk_r, gnk_n, gi_1, Nat.reduceLT, if_true, if_false]
    · simp (decide := true) only [E_X12_undo_0, E_X12_undo_1, E_X12_undo_4, E_X12_undo_7, E_X12_undo_9, E_X12_undo_10, E_X12_undo_11, E_X12_undo_12, E_X12_undo_15, E_X12_undo_18, E_X12_undo_19, E_X12_undo_20, E_X12_undo_23, E_X12_undo_26, E_X12_undo_27, E_X12_undo_28, E_X12_undo_31, E_X12_undo_34, E_X12_undo_35, E_X12_undo_36, E_X12_undo_39, E_X12_undo_42, E_X12_undo_43, E_X12_undo_44, E_X12_undo_47, E_X12_undo_50, E_X12_undo_51, E_X12_undo_52, E_X12_undo_55, E_X12_undo_58, E_X12_undo_59, E_X12_undo_60, E_X12_undo_63, E_X12_undo_66, E_X12_undo_67, E_X12_undo_69, E_X12_undo_70, E_X12_undo_73, E_X12_undo_74, E_X12_undo_77, E_X12_undo_78, E_X12_undo_79, E_X12_undo_82, E_X12_undo_83, E_X12_undo_84, E_X12_undo_85, E_X12_undo_88, E_X12_undo_91, E_X12_undo_92, E_X12_undo_94, E_X12_undo_96, E_X12_undo_99, E_X12_undo_100, E_X12_undo_103, E_X12_undo_104, E_X12_undo_105, E_X12_undo_108, E_X12_undo_109, E_X12_undo_110, E_X12_undo_111, E_X12_undo_112, E_X12_undo_115, E_X12_undo_116, E_X12_undo_117, E_X12_undo_120, E_X12_undo_121, E_X12_undo_122, E_X12_undo_123, E_X12_undo_124, E_X12_undo_127, E_X12_undo_128, E_X12_undo_129, E_X12_undo_132, E_X12_undo_133, E_X12_undo_134, E_X12_undo_135, E_X12_undo_138, E_X12_undo_141, E_X12_undo_142, E_X12_undo_144, E_X12_undo_146, E_X12_undo_149, E_X12_undo_150, E_X12_undo_153, E_X12_undo_154, E_X12_undo_155, E_X12_undo_158, E_X12_undo_159, E_X12_undo_160, E_X12_undo_161, E_X12_undo_164, E_X12_undo_167, E_X12_undo_168, E_X12_undo_170, E_X12_undo_172, E_X12_undo_175, E_X12_undo_176, E_X12_undo_179, E_X12_undo_180, E_X12_undo_181, E_X12_undo_184, E_X12_undo_185, E_X12_undo_186, E_X12_undo_187, E_X12_undo_188, E_X12_undo_191, E_X12_undo_192, E_X12_undo_193, E_X12_undo_196, E_X12_undo_197, E_X12_undo_198, E_X12_undo_199, E_X12_undo_200, E_X12_undo_203, E_X12_undo_204, E_X12_undo_205, E_X12_undo_208, E_X12_undo_209, E_X12_undo_210, E_X12_undo_211, E_X12_undo_212, E_X12_undo_215, E_X12_undo_216, E_X12_undo_217, E_X12_undo_220, E_X12_undo_221, E_X12_undo_222, E_X12_undo_223, E_X12_undo_224, E_X12_undo_227, E_X12_undo_228, E_X12_undo_229, E_X12_undo_232, E_X12_undo_233, E_X12_undo_234, E_X12_undo_235, E_X12_undo_236, E_X12_undo_239, E_X12_undo_240, E_X12_undo_241, E_X12_undo_244, E_X12_undo_245, E_X12_undo_246, E_X12_undo_247, E_X12_undo_248, E_X12_undo_251, E_X12_undo_252, E_X12_undo_253, E_X12_undo_256, E_X12_undo_257, E_X12_undo_258, E_X12_undo_259, E_X12_undo_262, E_X12_undo_265, E_X12_undo_266, E_X12_undo_268, E_X12_undo_269, E_X12_undo_272, E_X12_undo_273, E_X12_undo_276, E_X12_undo_277, E_X12_undo_278, E_X12_undo_281, E_X12_undo_282, E_X12_undo_283, E_X12_undo_284, E_X12_undo_285, E_X12_undo_288, E_X12_undo_289, E_X12_undo_290, E_X12_undo_293, E_X12_undo_294, E_X12_undo_295, E_X12_undo_296, E_X12_undo_297, E_X12_undo_300, E_X12_undo_301, E_X12_undo_302, E_X12_undo_305, E_X12_undo_306, E_X12_undo_307, E_X12_undo_308, E_X12_undo_311, E_X12_undo_314, E_X12_undo_315, E_X12_undo_317, E_X12_undo_319, E_X12_undo_322, E_X12_undo_323, E_X12_undo_326, E_X12_undo_327, E_X12_undo_328, E_X12_undo_331, E_X12_undo_332, E_X12_undo_333, E_X12_undo_334, E_X12_undo_335, E_X12_undo_338, E_X12_undo_339, E_X12_undo_340, E_X12_undo_343, E_X12_undo_344, E_X12_undo_345, E_X12_undo_346, E_X12_undo_349, E_X12_undo_352, E_X12_undo_353, E_X12_undo_356, rk_137, rg_137_48, e48, List.map_nil, List.map_cons, List.sum_cons, List.sum_nil, gcat_i, gcat_r, gcat_l, Nat.reduceAdd, Nat.reduceLeDiff, Nat.zero_le, Option.toList, List.cons_append, List.nil_append, gnk_i, gnk_r, gnk_n, gi_1, Nat.reduceLT, if_true, if_false]
  · have hk := k2.1
    have hf := kCu_f k1 h1.2.2.1
    obtain ⟨r49, r0, r1, r2, r3, r4, r5⟩ := k4
    unfold gBoth
    refine cUn_c (d := 39) e9 hR hk x1 y1 z1 (fun s1 P1 => ⟨s1, rfl, ?_⟩)
    obtain ⟨p22, p21, pfr, pR, pS, pP, pB⟩ := P1
    refine mUn_all (by rw [pfr _ _ (by omega), e48]; decide) (fun s2 P2 => ?_)
    obtain ⟨q2, qfr, ⟨a14, a0, a1, a2, a38, a42, a43⟩, c138, c139, c140, c141, c142, c143, c144, c145, c146, c147, c168, c169, c163, c164, c165, c166, c167⟩ := P2
    have fr : ∀ b j, ¬ ((83 ≤ b ∧ b ≤ 100) ∨ (1 ≤ b ∧ b ≤ 4) ∨ (9 ≤ b ∧ b ≤ 12) ∨ (17 ≤ b ∧ b ≤ 20) ∨ (b = 137 ∧ (j = 14 ∨ j = 0 ∨ j = 1 ∨ j = 2 ∨ j = 38 ∨ j = 42 ∨ j = 43)) ∨ (138 ≤ b ∧ b ≤ 147) ∨ (163 ≤ b ∧ b ≤ 169)) → s2.1 b j = s.1 b j := fun b j q => (qfr b j (by omega)).trans (pfr b j (by omega))
    have e0 : s2.1 137 0 = nI p.1.2.1 := by
      rw [a0, pfr _ _ (by omega)]
      exact r0
    have hFi : kFi s2 φ := kFi_cg h1 (fun b j q => fr b j (by omega))
    simp only [E_X12_undo_352, E_X12_undo_353, E_X12_undo_356, rk_137, rg_137_0, e0, List.map_nil, List.map_cons, List.sum_cons, List.sum_nil, gcat_i, gcat_r, gcat_l, Nat.reduceAdd, Nat.reduceLeDiff, Nat.zero_le, Option.toList, List.cons_append, List.nil_append, gnk_i, gnk_r, gnk_n, gi_1, Nat.reduceLT, if_true, if_false]
    refine ⟨s2, rfl, (by first | exact trivial | rfl), ⟨_, rfl⟩, ⟨⟨φ, p, cu, cs, f, l1, l2, l3, hFi, ⟨k1, k2, gR_cg pR hk.1 (by rw [q2]) (fun b j q => qfr b j (by omega)), ⟨⟨e0, ?_, ?_, fun k hk4 => ?_, fun c hc => ⟨?_, ?_, fun k hk4 => ?_⟩, fun t ht => ⟨?_, ?_, ?_, ?_, ?_⟩⟩, ?_, ?_, fun c hc => Or.inl ⟨rfl, ?_⟩, k2.2.2.2.2.2.2.1, k2.2.2.2.2.2.2.2.1, k2.2.2.2.2.2.2.2.2⟩⟩, ⟨⟨cSx_cg pS (fun c j a b => qfr c j (by omega)), ⟨?_, x2.2.1, fun i r hr => ?_⟩, x3⟩, ⟨cPx_cg pP (fun c j a b => qfr c j (by omega)), ⟨?_, y2.2.1, fun i r hr => ?_⟩, y3⟩, ⟨cBx_cg pB (fun c j a b => qfr c j (by omega)), ⟨?_, z2.2.1, fun i r hr => ?_⟩, z3⟩⟩, kIm_cg h4 h1.2.2.1 (by rw [q2]; exact p21 119 1 (by decide)) (fun b j q => fr b j (by omega))⟩, ⟨n, b, kTx_cg h5 (fun b j q => fr b j (by omega))⟩, ⟨o, tr, kAc_cg h6 (by rw [q2]; exact p21 0 15 (by decide)) (fun b j q => fr b j (by omega))⟩, kTp_cg h7 (fun b j q => by rw [q2, p22]) (fun b j q => fr b j (by omega))⟩⟩
    · rw [a1, pfr _ _ (by omega)]
      exact r1
    · rw [a2, pfr _ _ (by omega)]
      exact r2
    · rw [c138 k hk4, pfr _ _ (by omega)]
      exact r3 k hk4
    · rw [c139 c (by have := hk.1; omega), pfr _ _ (by omega)]
      exact (r4 c hc).1
    · rw [c140 c (by have := hk.1; omega), pfr _ _ (by omega)]
      exact (r4 c hc).2.1
    · rw [c142 _ (by have := hk.1; omega), pfr _ _ (by omega)]
      exact (r4 c hc).2.2.2 k hk4
    · rw [c143 t (by have := hk.2.1; omega), pfr _ _ (by omega)]
      exact (r5 t ht).1
    · rw [c144 t (by have := hk.2.1; omega), pfr _ _ (by omega)]
      exact (r5 t ht).2.1
    · rw [c145 t (by have := hk.2.1; omega), pfr _ _ (by omega)]
      exact (r5 t ht).2.2.1
    · rw [c146 t (by have := hk.2.1; omega), pfr _ _ (by omega)]
      exact (r5 t ht).2.2.2.1
    · rw [c147 t (by have := hk.2.1; omega), pfr _ _ (by omega)]
      exact (r5 t ht).2.2.2.2
    · cases cu with
      | none =>
        refine ⟨?_, k1.1⟩
        rw [a14, pfr _ _ (by omega)]
        exact r49
      | some k =>
        obtain ⟨b1, -, b3⟩ := hFi.2.2.2.2 k cs k1.1
        refine ⟨?_, ?_, b1.2.2.1, b3⟩
        · rw [a14, pfr _ _ (by omega)]
          exact r49
        · obtain ⟨q, -⟩ := List.getElem?_eq_some_iff.mp k1.1
          have := h1.2.2.1
          omega
    · rw [fr _ _ (by omega)]
      exact h2.2.2.2.2.2.1
    · rw [c141 c (by have := hk.1; omega), pfr _ _ (by omega)]
      exact (r4 c hc).2.2.1
    · rw [a38, pfr _ _ (by omega)]
      exact x2.1
    · have hi : i < 5 := by
        obtain ⟨q, -⟩ := List.getElem?_eq_some_iff.mp hr
        have := x2.2.1
        omega
      obtain ⟨a, b, c⟩ := x2.2.2 i r hr
      exact ⟨by rw [c163 i hi, pfr _ _ (by omega)]; exact a, by rw [c164 i hi, pfr _ _ (by omega)]; exact b, by rw [c165 i hi, pfr _ _ (by omega)]; exact c⟩
    · rw [a42, pfr _ _ (by omega)]
      exact y2.1
    · have hi : i < 10 := by
        obtain ⟨q, -⟩ := List.getElem?_eq_some_iff.mp hr
        have := y2.2.1
        omega
      obtain ⟨a, b⟩ := y2.2.2 i r hr
      exact ⟨by rw [c166 i hi, pfr _ _ (by omega)]; exact a, by rw [c167 i hi, pfr _ _ (by omega)]; exact b⟩
    · rw [a43, pfr _ _ (by omega)]
      exact z2.1
    · have hi : i < 8 := by
        obtain ⟨q, -⟩ := List.getElem?_eq_some_iff.mp hr
        have := z2.2.1
        omega
      obtain ⟨a, b⟩ := z2.2.2 i r hr
      exact ⟨by rw [c168 i hi, pfr _ _ (by omega)]; exact a, by rw [c169 i hi, pfr _ _ (by omega)]; exact b⟩
end
