/-! FIRM: the call, both sides -/
def sR (f : Nat) (s s' : gm_S) : Prop := s'.2.2 = s.2.2 ∧ (∀ b j, b ≠ f → s'.2.1 b j = s.2.1 b j) ∧ ∀ b j, ¬ (f ≤ b ∧ b ≤ f + 3) → s'.1 b j = s.1 b j
/-- as readFrom begins -/
def sT (s : gm_S) (f n : Nat) : gm_S := gm_si (gm_si (gm_si (gm_si (gm_si (gm_sr s f 6 (some 25)) f 7 (nI n)) f 8 0) f 5 0) f 0 12) f 1 2
section
variable {w : Nat × (Nat → Int32)} {d f n a : Nat} {b : Nat → Nat} {s : gm_S} {cs : List fC} {Q : Option Value → gc_M → Prop}
theorem sT_B (hf : gF_is f) (hn : n ≤ 100) (hb : xb n b) (h25 : ∀ i, i < n → s.1 25 i = nI (b i)) : cB f n b (sT s f n) := by
  have hf28 : 28 ≤ f := by unfold gF_is at hf; omega
  unfold sT
  refine ⟨hf, hn, ?_, ?_, hb, fun i hi => ?_⟩
  · rw [gsi_2, gsi_2, gsi_2, gsi_2, gsi_2, gsr_2, if_pos ⟨rfl, rfl⟩]
  · rw [gsi_1, if_neg (fun e => by omega), gsi_1, if_neg (fun e => by omega), gsi_1, if_neg (fun e => by omega), gsi_1, if_neg (fun e => by omega), gsi_1, if_pos ⟨rfl, rfl⟩]
  · rw [gsi_1, if_neg (fun e => by omega), gsi_1, if_neg (fun e => by omega), gsi_1, if_neg (fun e => by omega), gsi_1, if_neg (fun e => by omega), gsi_1, if_neg (fun e => by omega), gsr_1]
    exact h25 i hi
theorem sT_A : cA f n (sT s f n) 0 [] := by
  unfold sT
  refine ⟨?_, by omega, Nat.le_refl _, ?_, fun i k hk => (by cases hk)⟩
  · rw [gsi_1, if_neg (fun e => by omega), gsi_1, if_neg (fun e => by omega), gsi_1, if_neg (fun e => by omega), gsi_1, if_pos ⟨rfl, rfl⟩]
    rfl
  · rw [gsi_1, if_neg (fun e => by omega), gsi_1, if_neg (fun e => by omega), gsi_1, if_pos ⟨rfl, rfl⟩]
    rfl
theorem sT_0 : (sT s f n).1 f 0 = 12 := by
  unfold sT
  rw [gsi_1, if_neg (fun e => by omega), gsi_1, if_pos ⟨rfl, rfl⟩]
theorem sT_1 : (sT s f n).1 f 1 = 2 := by
  unfold sT
  rw [gsi_1, if_pos ⟨rfl, rfl⟩]
theorem sT_R {s' : gm_S} (h : sG f (sT s f n) s') : sR f s s' := by
  obtain ⟨h1, h2⟩ := h
  refine ⟨by rw [h1]; rfl, fun b j hb => ?_, fun b j hb => ?_⟩
  · rw [h1]
    unfold sT
    rw [gsi_2, gsi_2, gsi_2, gsi_2, gsi_2, gsr_2, if_neg (fun e => hb e.1)]
  · rw [h2 _ _ (by omega) (by omega) (by omega) (by omega)]
    unfold sT
    rw [gsi_1, if_neg (fun e => by omega), gsi_1, if_neg (fun e => by omega), gsi_1, if_neg (fun e => by omega), gsi_1, if_neg (fun e => by omega), gsi_1, if_neg (fun e => by omega), gsr_1]
theorem c_rf_go (hf : gF_is f) (hn : n ≤ 100) (hQ : gc_X w d 8 62 [some (.ref f), some (.ref 25), some (.int (nI n)), some (.int 0)] [] (gm_m (sT s f n)) Q) : gc_X w d 8 0 [some (.ref f), some (.ref 25), some (.int (nI n)), none] [] (gm_m s) Q := by
  have g1 : ∀ s, gm_ln (gm_m s) 25 = 100 := fun s => Eq.trans rfl rfl
  have g2 : ∀ s, gm_len (gm_m s) 25 100 := fun s => gm_m_len (by decide) rfl (by decide)
  have e100 : ¬ nI 100 < nI n := nI_nlt hn (by omega)
  have e10 : ((10 : Int32) ≤ 0) = False := eq_false (by decide)
  have e00 : ((0 : Int32) ≤ 0) = True := eq_true (by decide)
  unfold sT at hQ
  simp only [E_X1_readFrom_0, E_X1_readFrom_1, E_X1_readFrom_2r, E_X1_readFrom_2n, E_X1_readFrom_5, E_X1_readFrom_6, E_X1_readFrom_7, E_X1_readFrom_8, E_X1_readFrom_9, E_X1_readFrom_12, E_X1_readFrom_15, E_X1_readFrom_16, E_X1_readFrom_17, E_X1_readFrom_20, E_X1_readFrom_21, E_X1_readFrom_22, E_X1_readFrom_25, E_X1_readFrom_26, E_X1_readFrom_28, E_X1_readFrom_31, E_X1_readFrom_32, E_X1_readFrom_33, E_X1_readFrom_36, E_X1_readFrom_37, E_X1_readFrom_38, E_X1_readFrom_39, E_X1_readFrom_41, E_X1_readFrom_44, E_X1_readFrom_45, E_X1_readFrom_48, E_X1_readFrom_49, E_X1_readFrom_51, E_X1_readFrom_54, E_X1_readFrom_57, E_X1_readFrom_58, E_X1_readFrom_61, E_X1_readFrom_63, E_X1_readFrom_66, E_X1_readFrom_69, E_X1_readFrom_70, E_X1_readFrom_73, E_X1_readFrom_74, E_X1_readFrom_75, E_X1_readFrom_78, E_X1_readFrom_79, E_X1_readFrom_82, E_X1_readFrom_85, E_X1_readFrom_86, E_X1_readFrom_87, E_X1_readFrom_90, E_X1_readFrom_93, E_X1_readFrom_94, E_X1_readFrom_97, gF_gok hf, Fp_0 hf, Fp_1 hf, Fp_5 hf, Fp_6 hf, Fp_7 hf, Fp_8 hf, g1, g2, nI_o, e100, e10, e00, List.map_nil, List.map_cons, List.sum_cons, List.sum_nil, gcat_i, gcat_r, gcat_l, Nat.reduceAdd, Nat.reduceLeDiff, Nat.zero_le, Option.toList, List.cons_append, List.nil_append, gnk_i, gnk_r, gnk_n, gi_1, Nat.reduceLT, if_true, if_false]
  exact hQ
theorem c_rf_ok (hf : gF_is f) (hn : n ≤ 100) (hb : xb n b) (h25 : ∀ i, i < n → s.1 25 i = nI (b i)) (hd : 22 ≤ d) (h : sX_ok w f n b 0 0 cs) (hQ : ∀ s', sR f s s' → cK f s' (fC_flat cs) → s'.1 f 0 = fC_last 2 cs 12 → s'.1 f 1 = fC_last 3 cs 2 → Q (some (.int (-1))) (gm_m s')) : gc_X w d 8 0 [some (.ref f), some (.ref 25), some (.int (nI n)), none] [] (gm_m s) Q := by
  refine c_rf_go hf hn (h d (sT s f n) [] Q (some (.ref 25)) hd (sT_B hf hn hb h25) sT_A (fun s' hG hK h0 h1 => ?_))
  rw [sT_0] at h0
  rw [sT_1] at h1
  exact hQ s' (sT_R hG) hK h0 h1
theorem c_rf_no (hf : gF_is f) (hn : n ≤ 100) (hb : xb n b) (h25 : ∀ i, i < n → s.1 25 i = nI (b i)) (hd : 22 ≤ d) (h : sX_no w f n b 0 0 a) (hQ : ∀ s', sR f s s' → Q (some (.int (nI a))) (gm_m s')) : gc_X w d 8 0 [some (.ref f), some (.ref 25), some (.int (nI n)), none] [] (gm_m s) Q :=
  c_rf_go hf hn (h d (sT s f n) [] Q (some (.ref 25)) hd (sT_B hf hn hb h25) sT_A (fun s' hG => hQ s' (sT_R hG)))
end
theorem rX_get {s : gm_S} : ∀ {cs : List fC} {cl p i : Nat} {c : fC}, rX s cl p cs → cs[i]? = some c → s.1 150 (cl + i) = nI c.1 ∧ s.1 151 (cl + i) = nI c.2.1 ∧ (c.1 ≤ 1 → ∃ o, s.1 152 (cl + i) = nI (p + o) ∧ s.1 153 (cl + i) = nI (p + o + c.2.2.length) ∧ o + c.2.2.length ≤ (fC_tk cs).length ∧ ∀ q k, c.2.2[q]? = some k → (fC_tk cs)[o + q]? = some k)
  | [], cl, p, i, c, _, h => by simp at h
  | x :: r, cl, p, 0, c, hr, h => by
    obtain ⟨h1, h2, h3, h4⟩ := hr
    have h : some x = some c := h
    cases h
    refine ⟨h1, h2, fun q => ⟨0, (h3 q).1, (h3 q).2, ?_, fun q k hk => ?_⟩⟩
    · show 0 + x.2.2.length ≤ (x.2.2 ++ fC_tk r).length
      rw [List.length_append]
      omega
    · show (x.2.2 ++ fC_tk r)[0 + q]? = some k
      rw [Nat.zero_add, List.getElem?_append_left (List.getElem?_eq_some_iff.mp hk).1]
      exact hk
  | x :: r, cl, p, i + 1, c, hr, h => by
    obtain ⟨h1, h2, h3, h4⟩ := hr
    have h : r[i]? = some c := h
    obtain ⟨y1, y2, y3⟩ := rX_get h4 h
    have e : cl + 1 + i = cl + (i + 1) := by omega
    rw [e] at y1 y2 y3
    refine ⟨y1, y2, fun q => ?_⟩
    obtain ⟨o, z1, z2, z3, z4⟩ := y3 q
    refine ⟨x.2.2.length + o, by rw [← Nat.add_assoc p]; exact z1, by rw [← Nat.add_assoc p]; exact z2, ?_, fun q k hk => ?_⟩
    · show x.2.2.length + o + c.2.2.length ≤ (x.2.2 ++ fC_tk r).length
      rw [List.length_append]
      omega
    · show (x.2.2 ++ fC_tk r)[x.2.2.length + o + q]? = some k
      rw [List.getElem?_append_right (by omega), Nat.add_assoc, Nat.add_sub_cancel_left]
      exact z4 q k hk
section
variable {w : Nat × (Nat → Int32)} {s : gm_S} {k n a : Nat} {b : Nat → Nat} {cs : List fC} {Q : Option Value → gc_M → Prop}
/-- goesText -/
theorem d_gt_go {s1 : gm_S} (hs1 : s1 = gm_si (gm_si s 137 16 0) 137 26 (nI (100 * k))) (hQ : gc_X w 39 137 15 [some (.ref 137), some (.int (nI k)), some (.int 0)] [] (gm_m s1) Q) : gc_X w 39 137 0 [some (.ref 137), some (.int (nI k)), none] [] (gm_m s) Q := by
  subst hs1
  have m : 100 * nI k = nI (100 * k) := nI_mul 100 _
  simp only [E_X12_goesText_0, E_X12_goesText_1, E_X12_goesText_2, E_X12_goesText_5, E_X12_goesText_6, E_X12_goesText_8, E_X12_goesText_9, E_X12_goesText_10, E_X12_goesText_13, E_X12_goesText_14, E_X12_goesText_16, E_X12_goesText_18, E_X12_goesText_19, E_X12_goesText_20, E_X12_goesText_21, E_X12_goesText_22, E_X12_goesText_25, E_X12_goesText_28, E_X12_goesText_29, E_X12_goesText_30, E_X12_goesText_33, E_X12_goesText_34, E_X12_goesText_37, E_X12_goesText_38, E_X12_goesText_39, E_X12_goesText_40, E_X12_goesText_41, E_X12_goesText_44, E_X12_goesText_45, E_X12_goesText_48, E_X12_goesText_51, E_X12_goesText_52, E_X12_goesText_53, E_X12_goesText_54, E_X12_goesText_56, E_X12_goesText_59, E_X12_goesText_60, E_X12_goesText_62, E_X12_goesText_65, E_X12_goesText_68, E_X12_goesText_69, rk_137, rp_137_16, rp_137_26, m, List.map_nil, List.map_cons, List.sum_cons, List.sum_nil, gcat_i, gcat_r, gcat_l, Nat.reduceAdd, Nat.reduceLeDiff, Nat.zero_le, Option.toList, List.cons_append, List.nil_append, gnk_i, gnk_r, gnk_n, gi_1, Nat.reduceLT, if_true, if_false]
  exact hQ
theorem d_gt_C : dC (100 * k) n (gm_si (gm_si s 137 16 0) 137 26 (nI (100 * k))) 0 [] := by
  refine ⟨?_, by omega, ?_, Nat.le_refl _, fun i q hq => (by cases hq)⟩
  · rw [gsi_1, if_neg (fun e => by omega), gsi_1, if_pos ⟨rfl, rfl⟩]
    rfl
  · rw [gsi_1, if_pos ⟨rfl, rfl⟩]
    rfl
theorem d_gt_J {s' : gm_S} (h : dJ (100 * k) k (10 * k + 0) (gm_si (gm_si s 137 16 0) 137 26 (nI (100 * k))) s') : dJ (100 * k) k (10 * k) s s' := by
  refine ⟨h.1, fun c j q1 q2 q3 q4 q5 => ?_⟩
  rw [h.2 c j q1 q2 q3 q4 q5, gsi_1, if_neg (fun e => by omega), gsi_1, if_neg (fun e => by omega)]
theorem d_gt_ok (hk : k < 6) (hB : dB (100 * k) n b s) (h : rX_ok w (100 * k) k n b 0 0 cs) (hQ : ∀ s', dJ (100 * k) k (10 * k) s s' → (∀ q t, (fC_tk cs)[q]? = some t → s'.1 154 (100 * k + q) = fT_code t) → (fC_tk cs).length ≤ 100 → s'.1 149 k = nI cs.length → rX s' (10 * k) (100 * k) cs → Q (some (.int 1)) (gm_m s')) : gc_X w 39 137 0 [some (.ref 137), some (.int (nI k)), none] [] (gm_m s) Q := by
  have hB1 : dB (100 * k) n b (gm_si (gm_si s 137 16 0) 137 26 (nI (100 * k))) := dB_F (cl := 0) hB (dF_trans (dF_si (by decide)) (dF_si (by decide)))
  refine d_gt_go rfl (h 33 _ [] Q hB1 d_gt_C (fun s' hJ htk hlen h149 hr => ?_))
  rw [Nat.zero_add] at h149
  exact hQ s' (d_gt_J hJ) htk hlen h149 hr
theorem d_gt_no (hk : k < 6) (hB : dB (100 * k) n b s) (h : rX_no w (100 * k) k n b 0 0 a) (hQ : ∀ s', dJ (100 * k) k (10 * k) s s' → s'.1 137 16 = nI a → Q (some (.int 0)) (gm_m s')) : gc_X w 39 137 0 [some (.ref 137), some (.int (nI k)), none] [] (gm_m s) Q := by
  have hB1 : dB (100 * k) n b (gm_si (gm_si s 137 16 0) 137 26 (nI (100 * k))) := dB_F (cl := 0) hB (dF_trans (dF_si (by decide)) (dF_si (by decide)))
  exact d_gt_go rfl (h 33 _ [] Q hB1 d_gt_C (fun s' hJ h16 => hQ s' (d_gt_J hJ) h16))
end
theorem xm_ne' {c : Nat} (h : c < 128) : ¬ nI c = (-1 : Int32) := fun e => xm_ne c h e.symm
theorem kf_ri {s : gm_S} {k : Nat} (hk : k < 6) : gm_ri (gm_m s) 26 (nI k) (28 + 4 * k) := by
  match k, hk with
  | 0, _ | 1, _ | 2, _ | 3, _ | 4, _ | 5, _ => exact gm_m_ri (t := 6) (n := 6) (by decide) rfl (by decide) (vp_in_nI (by decide) (by decide)) (by rw [nI_clamp (by decide)]; rfl) (by decide)
section
variable {w : Nat × (Nat → Int32)} {s : gm_S}
theorem i_firm (h : gInv s) : gBoth w 74 138 [some (.ref 0), none, none] [some (.ref 137), none] s := by
  have h0 := h
  obtain ⟨φ, p, cu, cs, f, l1, l2, l3, h⟩ := gInv_I h
  obtain ⟨n, b, t1, t2, t3, t4⟩ := h.2.2.2.2.1
  have f1 := h.1.1
  have f2 := h.1.2.1
  have f3 := h.1.2.2.1
  by_cases hk6 : φ.length = 6
  · have e1 : ¬ nI φ.length < 6 := by rw [hk6]; decide
    have e2 : (nI φ.length = 6) = True := eq_true (by rw [hk6]; rfl)
    refine i_no h0 (-4) (fun Q => ?_) (fun Q => ?_)
    · simp only [E_X11_firm_0, E_X11_firm_1, E_X11_firm_4, E_X11_firm_6, E_X11_firm_9, E_X11_firm_11, E_X11_firm_12, E_X11_firm_13, E_X11_firm_16, E_X11_firm_17, E_X11_firm_20, E_X11_firm_21, E_X11_firm_22, E_X11_firm_23, E_X11_firm_24, E_X11_firm_27, E_X11_firm_28, E_X11_firm_31, E_X11_firm_34, E_X11_firm_35, E_X11_firm_36, E_X11_firm_37, E_X11_firm_40, E_X11_firm_41, E_X11_firm_42, E_X11_firm_45, E_X11_firm_47, E_X11_firm_48, E_X11_firm_49, E_X11_firm_50, E_X11_firm_51, E_X11_firm_54, E_X11_firm_55r, E_X11_firm_55n, E_X11_firm_58, E_X11_firm_59, E_X11_firm_60, E_X11_firm_63, E_X11_firm_64, E_X11_firm_65, E_X11_firm_68, E_X11_firm_69, E_X11_firm_72, E_X11_firm_73, E_X11_firm_74, rk_0, rg_0_13, f1, e1, List.map_nil, List.map_cons, List.sum_cons, List.sum_nil, gcat_i, gcat_r, gcat_l, Nat.reduceAdd, Nat.reduceLeDiff, Nat.zero_le, Option.toList, List.cons_append, List.nil_append, gnk_i, gnk_r, gnk_n, gi_1, Nat.reduceLT, if_true, if_false]
    · simp only [E_X12_firm_0, E_X12_firm_1, E_X12_firm_4, E_X12_firm_6, E_X12_firm_9, E_X12_firm_11, E_X12_firm_12, E_X12_firm_13, E_X12_firm_14, E_X12_firm_17, E_X12_firm_20, E_X12_firm_21, E_X12_firm_22, E_X12_firm_23, E_X12_firm_26, E_X12_firm_27, E_X12_firm_30, E_X12_firm_32, E_X12_firm_33, E_X12_firm_36, E_X12_firm_37, E_X12_firm_38, E_X12_firm_39, E_X12_firm_40, E_X12_firm_43, E_X12_firm_46, E_X12_firm_47, E_X12_firm_48, E_X12_firm_51, E_X12_firm_52, E_X12_firm_53, E_X12_firm_56, E_X12_firm_57, E_X12_firm_60, rk_137, rg_137_13, f2, e2, List.map_nil, List.map_cons, List.sum_cons, List.sum_nil, gcat_i, gcat_r, gcat_l, Nat.reduceAdd, Nat.reduceLeDiff, Nat.zero_le, Option.toList, List.cons_append, List.nil_append, gnk_i, gnk_r, gnk_n, gi_1, Nat.reduceLT, if_true, if_false]
  have hk : φ.length < 6 := by omega
  generalize hK : φ.length = k at *
  have hfi : gF_is (28 + 4 * k) := by unfold gF_is; omega
  have hb : xb n b := fun i hi => (t4 i hi).1
  have h25 : ∀ i, i < n → s.1 25 i = nI (b i) := fun i hi => (t4 i hi).2.1
  have e1 : nI k < 6 := nI_lt (b := 6) hk (by decide)
  have e2 : (nI k = 6) = False := eq_false (fun e => by have := (nI_eq (a := k) (b := 6) (by omega) (by decide)).mp e; omega)
  have q1 : ∀ s, gm_rok (gm_m s) 26 (nI k) := fun s => gm_ri_rok (kf_ri (s := s) hk)
  have q2 : ∀ s, gm_rr (gm_m s) 26 k = 28 + 4 * k := fun s => by
    have := gm_ri_rr (kf_ri (s := s) hk)
    rwa [nI_clamp (by omega)] at this
  have q3 : (nI k).toNatClampNeg = k := nI_clamp (by omega)
  have q4 : 28 + 4 * k < 1000000 := by omega
  -- the text is the same to the other behind the one's call
  have hdB : ∀ s1 : gm_S, (∀ c j, ¬ (28 + 4 * k ≤ c ∧ c ≤ 28 + 4 * k + 3) → ¬ c = 0 → s1.1 c j = s.1 c j) → dB (100 * k) n b s1 := by
    intro s1 e
    exact ⟨by omega, t3, (e _ _ (by omega) (by omega)).trans t2, hb, fun i hi => (e _ _ (by omega) (by omega)).trans (t4 i hi).2.2, fun i hi => (e _ _ (by omega) (by omega)).trans (h.1.2.2.2.1.2.1 i hi)⟩
  have hN : ∀ s1 s2 s3 : gm_S, s1.2.2 = s.2.2 → (∀ c j, c ≠ 28 + 4 * k → ¬ (c = 83 ∧ j = 1) → s1.2.1 c j = s.2.1 c j) → (∀ c j, ¬ (28 + 4 * k ≤ c ∧ c ≤ 28 + 4 * k + 3) → ¬ (c = 0 ∧ (j = 11 ∨ j = 13)) → s1.1 c j = s.1 c j) → dJ (100 * k) k (10 * k) s1 s2 → s3.2 = s2.2 → (∀ c j, ¬ (c = 137 ∧ 13 ≤ j ∧ j ≤ 15) → s3.1 c j = s2.1 c j) → nN k s s3 := by
    intro s1 s2 s3 a1 a2 a3 hJ a4 a5
    refine ⟨by rw [a4, hJ.1]; exact a1, fun c j z1 z2 => ?_, fun c j z => ?_⟩
    · rw [a4, hJ.1]
      exact a2 c j z1 z2
    · unfold nD at z
      rw [a5 c j (by omega), hJ.2 c j (by omega) (by omega) (by omega) (by omega) (by omega)]
      exact a3 c j (by omega) (by omega)
  rcases z_X (w := w) (f := 28 + 4 * k) (B := 100 * k) (fi := k) (n := n) hb hk 9 0 0 (by omega) (by omega) with ⟨cs', y1, y2, y3, y4, y5, y6⟩ | ⟨a', y0, y5, y6⟩
  · unfold gBoth
    simp only [E_X11_firm_0, E_X11_firm_1, E_X11_firm_4, E_X11_firm_6, E_X11_firm_9, E_X11_firm_11, E_X11_firm_12, E_X11_firm_13, E_X11_firm_16, E_X11_firm_17, E_X11_firm_20, E_X11_firm_21, E_X11_firm_22, E_X11_firm_23, E_X11_firm_24, E_X11_firm_27, E_X11_firm_28, E_X11_firm_31, E_X11_firm_34, E_X11_firm_35, E_X11_firm_36, E_X11_firm_37, E_X11_firm_40, E_X11_firm_41, E_X11_firm_42, E_X11_firm_45, E_X11_firm_47, E_X11_firm_48, E_X11_firm_49, E_X11_firm_50, E_X11_firm_51, E_X11_firm_54, E_X11_firm_55r, E_X11_firm_55n, E_X11_firm_58, E_X11_firm_59, E_X11_firm_60, E_X11_firm_63, E_X11_firm_64, E_X11_firm_65, E_X11_firm_68, E_X11_firm_69, E_X11_firm_72, E_X11_firm_73, E_X11_firm_74, rk_0, rg_0_10, rg_0_11, rg_0_12, rg_0_13, f1, e1, q1, q2, q3, t1, gF_cl hfi, List.map_nil, List.map_cons, List.sum_cons, List.sum_nil, gcat_i, gcat_r, gcat_l, Nat.reduceAdd, Nat.reduceLeDiff, Nat.zero_le, Option.toList, List.cons_append, List.nil_append, gnk_i, gnk_r, gnk_n, gi_1, Nat.reduceLT, if_true, if_false]
    refine c_rf_ok hfi t3 hb h25 (by omega) y5 (fun s1 hR hKs h10 h11 => ?_)
    have g13 : s1.1 0 13 = nI k := (hR.2.2 _ _ (by omega)).trans f1
    have em : ((-1 : Int32) = -1) = True := eq_true rfl
    have hx : ∀ s', s' = gm_si (gm_sr (gm_si s1 0 11 0) 83 1 (some (28 + 4 * k))) 0 13 (nI (k + 1)) → s'.2.2 = s.2.2 ∧ (∀ c j, c ≠ 28 + 4 * k → ¬ (c = 83 ∧ j = 1) → s'.2.1 c j = s.2.1 c j) ∧ (∀ c j, ¬ (28 + 4 * k ≤ c ∧ c ≤ 28 + 4 * k + 3) → ¬ (c = 0 ∧ (j = 11 ∨ j = 13)) → s'.1 c j = s.1 c j) ∧ (∀ c j, c ≠ 0 → s'.1 c j = s1.1 c j) ∧ s'.2.1 83 1 = some (28 + 4 * k) ∧ s'.1 0 11 = 0 ∧ s'.1 0 13 = nI (k + 1) := by
      intro s' e
      subst e
      refine ⟨hR.1, fun c j z1 z2 => ?_, fun c j z1 z2 => ?_, fun c j z => ?_, ?_, ?_, ?_⟩
      · rw [gsi_2, gsr_2, if_neg z2, gsi_2]
        exact hR.2.1 c j z1
      · rw [gsi_1, if_neg (fun e => z2 ⟨e.1, Or.inr e.2⟩), gsr_1, gsi_1, if_neg (fun e => z2 ⟨e.1, Or.inl e.2⟩)]
        exact hR.2.2 c j z1
      · rw [gsi_1, if_neg (fun e => z e.1), gsr_1, gsi_1, if_neg (fun e => z e.1)]
      · rw [gsi_2, gsr_2, if_pos ⟨rfl, rfl⟩]
      · rw [gsi_1, if_neg (fun e => by omega), gsr_1, gsi_1, if_pos ⟨rfl, rfl⟩]
      · rw [gsi_1, if_pos ⟨rfl, rfl⟩]
    obtain ⟨x1, x2, x3, x4, x5, x6, x7⟩ := hx _ rfl
    have hy : gy_is 83 := Or.inl rfl
    have g13' : (gm_sr (gm_si s1 0 11 0) 83 1 (some (28 + 4 * k))).1 0 13 = nI k := by
      rw [gsr_1, gsi_1, if_neg (fun e => by omega)]
      exact g13
    simp only [E_X11_firm_0, E_X11_firm_1, E_X11_firm_4, E_X11_firm_6, E_X11_firm_9, E_X11_firm_11, E_X11_firm_12, E_X11_firm_13, E_X11_firm_16, E_X11_firm_17, E_X11_firm_20, E_X11_firm_21, E_X11_firm_22, E_X11_firm_23, E_X11_firm_24, E_X11_firm_27, E_X11_firm_28, E_X11_firm_31, E_X11_firm_34, E_X11_firm_35, E_X11_firm_36, E_X11_firm_37, E_X11_firm_40, E_X11_firm_41, E_X11_firm_42, E_X11_firm_45, E_X11_firm_47, E_X11_firm_48, E_X11_firm_49, E_X11_firm_50, E_X11_firm_51, E_X11_firm_54, E_X11_firm_55r, E_X11_firm_55n, E_X11_firm_58, E_X11_firm_59, E_X11_firm_60, E_X11_firm_63, E_X11_firm_64, E_X11_firm_65, E_X11_firm_68, E_X11_firm_69, E_X11_firm_72, E_X11_firm_73, E_X11_firm_74, rk_0, rk_83, rg_0_0, rg_0_13, rp_0_11, rp_0_13, yp_1 hy, g13, g13', x7, em, q4, nI_1, nI_pred, List.map_nil, List.map_cons, List.sum_cons, List.sum_nil, gcat_i, gcat_r, gcat_l, Nat.reduceAdd, Nat.reduceLeDiff, Nat.zero_le, Option.toList, List.cons_append, List.nil_append, gnk_i, gnk_r, gnk_n, gi_1, Nat.reduceLT, if_true, if_false]
    generalize hs2 : gm_si (gm_sr (gm_si s1 0 11 0) 83 1 (some (28 + 4 * k))) 0 13 (nI (k + 1)) = s2 at x1 x2 x3 x4 x5 x6 x7
    refine ⟨s2, rfl, ?_⟩
    have m13 : s2.1 137 13 = nI k := (x3 _ _ (by omega) (by omega)).trans f2
    simp only [E_X12_firm_0, E_X12_firm_1, E_X12_firm_4, E_X12_firm_6, E_X12_firm_9, E_X12_firm_11, E_X12_firm_12, E_X12_firm_13, E_X12_firm_14, E_X12_firm_17, E_X12_firm_20, E_X12_firm_21, E_X12_firm_22, E_X12_firm_23, E_X12_firm_26, E_X12_firm_27, E_X12_firm_30, E_X12_firm_32, E_X12_firm_33, E_X12_firm_36, E_X12_firm_37, E_X12_firm_38, E_X12_firm_39, E_X12_firm_40, E_X12_firm_43, E_X12_firm_46, E_X12_firm_47, E_X12_firm_48, E_X12_firm_51, E_X12_firm_52, E_X12_firm_53, E_X12_firm_56, E_X12_firm_57, E_X12_firm_60, rk_137, rc_137, rg_137_13, m13, e2, List.map_nil, List.map_cons, List.sum_cons, List.sum_nil, gcat_i, gcat_r, gcat_l, Nat.reduceAdd, Nat.reduceLeDiff, Nat.zero_le, Option.toList, List.cons_append, List.nil_append, gnk_i, gnk_r, gnk_n, gi_1, Nat.reduceLT, if_true, if_false]
    refine d_gt_ok hk (hdB s2 (fun c j z1 z2 => x3 c j z1 (fun e => z2 e.1))) y6 (fun s3 hJ htk hlen h149 hr => ?_)
    have n13 : s3.1 137 13 = nI k := (hJ.2 _ _ (by omega) (by omega) (by omega) (by omega) (by omega)).trans m13
    have n13' : (gm_si s3 137 15 0).1 137 13 = nI k := by
      rw [gsi_1, if_neg (fun e => by omega)]
      exact n13
    have n13'' : (gm_si (gm_si s3 137 15 0) 137 14 (nI k)).1 137 13 = nI k := by
      rw [gsi_1, if_neg (fun e => by omega)]
      exact n13'
    have n14 : (gm_si (gm_si (gm_si s3 137 15 0) 137 14 (nI k)) 137 13 (nI (k + 1))).1 137 14 = nI k := by
      rw [gsi_1, if_neg (fun e => by omega), gsi_1, if_pos ⟨rfl, rfl⟩]
    simp only [E_X12_firm_0, E_X12_firm_1, E_X12_firm_4, E_X12_firm_6, E_X12_firm_9, E_X12_firm_11, E_X12_firm_12, E_X12_firm_13, E_X12_firm_14, E_X12_firm_17, E_X12_firm_20, E_X12_firm_21, E_X12_firm_22, E_X12_firm_23, E_X12_firm_26, E_X12_firm_27, E_X12_firm_30, E_X12_firm_32, E_X12_firm_33, E_X12_firm_36, E_X12_firm_37, E_X12_firm_38, E_X12_firm_39, E_X12_firm_40, E_X12_firm_43, E_X12_firm_46, E_X12_firm_47, E_X12_firm_48, E_X12_firm_51, E_X12_firm_52, E_X12_firm_53, E_X12_firm_56, E_X12_firm_57, E_X12_firm_60, rk_137, rg_137_13, rg_137_14, rp_137_13, rp_137_14, rp_137_15, n13', n13'', n14, g1_0, nI_1, List.map_nil, List.map_cons, List.sum_cons, List.sum_nil, gcat_i, gcat_r, gcat_l, Nat.reduceAdd, Nat.reduceLeDiff, Nat.zero_le, Option.toList, List.cons_append, List.nil_append, gnk_i, gnk_r, gnk_n, gi_1, Nat.reduceLT, if_true, if_false]
    refine ⟨_, rfl, (by first | exact trivial | rfl), ⟨_, rfl⟩, ?_⟩
    have z : ∀ s4, s4 = gm_si (gm_si (gm_si s3 137 15 0) 137 14 (nI k)) 137 13 (nI (k + 1)) → s4.2 = s3.2 ∧ (∀ c j, ¬ (c = 137 ∧ 13 ≤ j ∧ j ≤ 15) → s4.1 c j = s3.1 c j) ∧ s4.1 137 13 = nI (k + 1) ∧ s4.1 137 14 = nI k ∧ s4.1 137 15 = 0 := by
      intro s4 e
      subst e
      refine ⟨rfl, fun c j q => ?_, ?_, n14, ?_⟩
      · rw [gsi_1, if_neg (fun e => by omega), gsi_1, if_neg (fun e => by omega), gsi_1, if_neg (fun e => by omega)]
      · rw [gsi_1, if_pos ⟨rfl, rfl⟩]
      · rw [gsi_1, if_neg (fun e => by omega), gsi_1, if_neg (fun e => by omega), gsi_1, if_pos ⟨rfl, rfl⟩]
    obtain ⟨w1, w2, w3, w4, w5⟩ := z _ rfl
    generalize gm_si (gm_si (gm_si s3 137 15 0) 137 14 (nI k)) 137 13 (nI (k + 1)) = s4 at w1 w2 w3 w4 w5
    have hNN := hN s2 s3 s4 x1 x2 x3 hJ w1 w2
    have same : ∀ c j, c < 100 → s4.1 c j = s2.1 c j := fun c j hc => (w2 c j (by omega)).trans (hJ.2 _ _ (by omega) (by omega) (by omega) (by omega) (by omega))
    have flat : (fC_flat cs').length ≤ 100 := by omega
    have hcs : fCs cs' := ⟨fun c hc => (y2 c hc).1, y3, by omega, flat⟩
    have hK4 : gF_tx s4 (28 + 4 * k) cs' := by
      have q : ∀ c j, 28 + 4 * k ≤ c → c ≤ 28 + 4 * k + 3 → s4.1 c j = s1.1 c j := fun c j z1 z2 => (same c j (by omega)).trans (x4 c j (by omega))
      refine ⟨⟨(q _ _ (by omega) (by omega)).trans hKs.1, flat, fun i t ht => ?_⟩, (q _ _ (by omega) (by omega)).trans h10, (q _ _ (by omega) (by omega)).trans h11⟩
      obtain ⟨z1, z2, z3⟩ := hKs.2 i t ht
      exact ⟨(q _ _ (by omega) (by omega)).trans z1, (q _ _ (by omega) (by omega)).trans z2, (q _ _ (by omega) (by omega)).trans z3⟩
    have up : ∀ c j, 149 ≤ c → s4.1 c j = s3.1 c j := fun c j hc => w2 c j (by omega)
    have hT : mTx s4 k cs' := by
      refine ⟨(up _ _ (by omega)).trans h149, fun i c hc => ?_⟩
      obtain ⟨z1, z2, z3⟩ := rX_get hr hc
      refine ⟨(up _ _ (by omega)).trans z1, (up _ _ (by omega)).trans z2, fun hc1 => ?_⟩
      obtain ⟨o, v1, v2, v3, v4⟩ := z3 hc1
      refine ⟨100 * k + o, (up _ _ (by omega)).trans v1, (up _ _ (by omega)).trans v2, by omega, fun q t ht => ?_⟩
      rw [up _ _ (by omega), Nat.add_assoc]
      exact htk _ _ (v4 q t ht)
    have hZ : ∀ i c, cs'[i]? = some c → c.1 ≤ 1 → ∃ a, s4.1 152 (10 * k + i) = nI a ∧ a + c.2.2.length ≤ 100 * (k + 1) := by
      intro i c hc hc1
      obtain ⟨z1, z2, z3⟩ := rX_get hr hc
      obtain ⟨o, v1, v2, v3, v4⟩ := z3 hc1
      exact ⟨100 * k + o, (up _ _ (by omega)).trans v1, by omega⟩
    have e83 : s4.2.1 83 1 = some (28 + 4 * k) := by
      rw [w1, hJ.1]
      exact x5
    subst hK
    exact g_good h hk hNN e83 ((same 0 11 (by omega)).trans x6) w5 ((same 0 13 (by omega)).trans x7) w3 w4 hcs hK4 hT hZ
  · unfold gBoth
    have em : (nI a' = -1) = False := eq_false (fun e => xm_ne' (by omega) e)
    simp only [E_X11_firm_0, E_X11_firm_1, E_X11_firm_4, E_X11_firm_6, E_X11_firm_9, E_X11_firm_11, E_X11_firm_12, E_X11_firm_13, E_X11_firm_16, E_X11_firm_17, E_X11_firm_20, E_X11_firm_21, E_X11_firm_22, E_X11_firm_23, E_X11_firm_24, E_X11_firm_27, E_X11_firm_28, E_X11_firm_31, E_X11_firm_34, E_X11_firm_35, E_X11_firm_36, E_X11_firm_37, E_X11_firm_40, E_X11_firm_41, E_X11_firm_42, E_X11_firm_45, E_X11_firm_47, E_X11_firm_48, E_X11_firm_49, E_X11_firm_50, E_X11_firm_51, E_X11_firm_54, E_X11_firm_55r, E_X11_firm_55n, E_X11_firm_58, E_X11_firm_59, E_X11_firm_60, E_X11_firm_63, E_X11_firm_64, E_X11_firm_65, E_X11_firm_68, E_X11_firm_69, E_X11_firm_72, E_X11_firm_73, E_X11_firm_74, rk_0, rg_0_10, rg_0_11, rg_0_12, rg_0_13, f1, e1, q1, q2, q3, t1, gF_cl hfi, List.map_nil, List.map_cons, List.sum_cons, List.sum_nil, gcat_i, gcat_r, gcat_l, Nat.reduceAdd, Nat.reduceLeDiff, Nat.zero_le, Option.toList, List.cons_append, List.nil_append, gnk_i, gnk_r, gnk_n, gi_1, Nat.reduceLT, if_true, if_false]
    refine c_rf_no hfi t3 hb h25 (by omega) y5 (fun s1 hR => ?_)
    have hx : ∀ s', s' = gm_si s1 0 11 0 → s'.2.2 = s.2.2 ∧ (∀ c j, c ≠ 28 + 4 * k → s'.2.1 c j = s.2.1 c j) ∧ (∀ c j, ¬ (28 + 4 * k ≤ c ∧ c ≤ 28 + 4 * k + 3) → ¬ (c = 0 ∧ j = 11) → s'.1 c j = s.1 c j) ∧ s'.1 0 11 = 0 := by
      intro s' e
      subst e
      refine ⟨hR.1, fun c j z1 => hR.2.1 c j z1, fun c j z1 z2 => ?_, ?_⟩
      · rw [gsi_1, if_neg z2]
        exact hR.2.2 c j z1
      · rw [gsi_1, if_pos ⟨rfl, rfl⟩]
    obtain ⟨x1, x2, x3, x6⟩ := hx _ rfl
    simp only [E_X11_firm_0, E_X11_firm_1, E_X11_firm_4, E_X11_firm_6, E_X11_firm_9, E_X11_firm_11, E_X11_firm_12, E_X11_firm_13, E_X11_firm_16, E_X11_firm_17, E_X11_firm_20, E_X11_firm_21, E_X11_firm_22, E_X11_firm_23, E_X11_firm_24, E_X11_firm_27, E_X11_firm_28, E_X11_firm_31, E_X11_firm_34, E_X11_firm_35, E_X11_firm_36, E_X11_firm_37, E_X11_firm_40, E_X11_firm_41, E_X11_firm_42, E_X11_firm_45, E_X11_firm_47, E_X11_firm_48, E_X11_firm_49, E_X11_firm_50, E_X11_firm_51, E_X11_firm_54, E_X11_firm_55r, E_X11_firm_55n, E_X11_firm_58, E_X11_firm_59, E_X11_firm_60, E_X11_firm_63, E_X11_firm_64, E_X11_firm_65, E_X11_firm_68, E_X11_firm_69, E_X11_firm_72, E_X11_firm_73, E_X11_firm_74, rk_0, rp_0_11, em, List.map_nil, List.map_cons, List.sum_cons, List.sum_nil, gcat_i, gcat_r, gcat_l, Nat.reduceAdd, Nat.reduceLeDiff, Nat.zero_le, Option.toList, List.cons_append, List.nil_append, gnk_i, gnk_r, gnk_n, gi_1, Nat.reduceLT, if_true, if_false]
    generalize gm_si s1 0 11 0 = s2 at x1 x2 x3 x6
    refine ⟨s2, rfl, ?_⟩
    have m13 : s2.1 137 13 = nI k := (x3 _ _ (by omega) (by omega)).trans f2
    simp only [E_X12_firm_0, E_X12_firm_1, E_X12_firm_4, E_X12_firm_6, E_X12_firm_9, E_X12_firm_11, E_X12_firm_12, E_X12_firm_13, E_X12_firm_14, E_X12_firm_17, E_X12_firm_20, E_X12_firm_21, E_X12_firm_22, E_X12_firm_23, E_X12_firm_26, E_X12_firm_27, E_X12_firm_30, E_X12_firm_32, E_X12_firm_33, E_X12_firm_36, E_X12_firm_37, E_X12_firm_38, E_X12_firm_39, E_X12_firm_40, E_X12_firm_43, E_X12_firm_46, E_X12_firm_47, E_X12_firm_48, E_X12_firm_51, E_X12_firm_52, E_X12_firm_53, E_X12_firm_56, E_X12_firm_57, E_X12_firm_60, rk_137, rc_137, rg_137_13, m13, e2, List.map_nil, List.map_cons, List.sum_cons, List.sum_nil, gcat_i, gcat_r, gcat_l, Nat.reduceAdd, Nat.reduceLeDiff, Nat.zero_le, Option.toList, List.cons_append, List.nil_append, gnk_i, gnk_r, gnk_n, gi_1, Nat.reduceLT, if_true, if_false]
    refine d_gt_no hk (hdB s2 (fun c j z1 z2 => x3 c j z1 (fun e => z2 e.1))) y6 (fun s3 hJ h16 => ?_)
    have n16 : (gm_si s3 137 15 0).1 137 16 = nI a' := by
      rw [gsi_1, if_neg (fun e => by omega)]
      exact h16
    have e00 : ((0 : Int32) = 0) = True := eq_true rfl
    simp only [E_X12_firm_0, E_X12_firm_1, E_X12_firm_4, E_X12_firm_6, E_X12_firm_9, E_X12_firm_11, E_X12_firm_12, E_X12_firm_13, E_X12_firm_14, E_X12_firm_17, E_X12_firm_20, E_X12_firm_21, E_X12_firm_22, E_X12_firm_23, E_X12_firm_26, E_X12_firm_27, E_X12_firm_30, E_X12_firm_32, E_X12_firm_33, E_X12_firm_36, E_X12_firm_37, E_X12_firm_38, E_X12_firm_39, E_X12_firm_40, E_X12_firm_43, E_X12_firm_46, E_X12_firm_47, E_X12_firm_48, E_X12_firm_51, E_X12_firm_52, E_X12_firm_53, E_X12_firm_56, E_X12_firm_57, E_X12_firm_60, rk_137, rg_137_16, rp_137_15, n16, e00, List.map_nil, List.map_cons, List.sum_cons, List.sum_nil, gcat_i, gcat_r, gcat_l, Nat.reduceAdd, Nat.reduceLeDiff, Nat.zero_le, Option.toList, List.cons_append, List.nil_append, gnk_i, gnk_r, gnk_n, gi_1, Nat.reduceLT, if_true, if_false]
    refine ⟨_, rfl, (by first | exact trivial | rfl), ⟨_, rfl⟩, ?_⟩
    have z : ∀ s4, s4 = gm_si s3 137 15 0 → s4.2 = s3.2 ∧ (∀ c j, ¬ (c = 137 ∧ j = 15) → s4.1 c j = s3.1 c j) ∧ s4.1 137 15 = 0 := by
      intro s4 e
      subst e
      refine ⟨rfl, fun c j q => ?_, ?_⟩
      · rw [gsi_1, if_neg q]
      · rw [gsi_1, if_pos ⟨rfl, rfl⟩]
    obtain ⟨w1, w2, w5⟩ := z _ rfl
    generalize gm_si s3 137 15 0 = s4 at w1 w2 w5
    have hNN := hN s2 s3 s4 x1 (fun c j z1 _ => x2 c j z1) (fun c j z1 z2 => x3 c j z1 (fun e => z2 ⟨e.1, Or.inl e.2⟩)) hJ w1 (fun c j q => w2 c j (by omega))
    have same : ∀ c j, ¬ (c = 137 ∧ 15 ≤ j) → c < 149 → s4.1 c j = s2.1 c j := fun c j h1 hc => (w2 c j (by omega)).trans (hJ.2 _ _ (by omega) (by omega) (by omega) (by omega) (by omega))
    have e83 : s4.2.1 83 1 = s.2.1 83 1 := by
      rw [w1, hJ.1]
      exact x2 _ _ (by omega)
    subst hK
    exact g_fault h hk hNN e83 ((same 0 11 (by omega) (by omega)).trans x6) w5 ((same 0 13 (by omega) (by omega)).trans (x3 _ _ (by omega) (by omega))) ((same 137 13 (by omega) (by omega)).trans (x3 _ _ (by omega) (by omega))) ((same 137 14 (by omega) (by omega)).trans (x3 _ _ (by omega) (by omega)))
end
