/-! FIRM, the reference: signs, numbers, words -/
def dB (B n : Nat) (b : Nat → Nat) (s : gm_S) : Prop := B ≤ 500 ∧ n ≤ 100 ∧ s.1 137 15 = nI n ∧ xb n b ∧ (∀ i, i < n → s.1 148 i = nI (b i)) ∧ kLe s
/-- at place a, W waiting (the newest last), o open, ts emitted from B on -/
def dA (B n : Nat) (s : gm_S) (a : Nat) (W : List Nat) (o : Nat) (ts : List fT) : Prop := s.1 137 16 = nI a ∧ a ≤ n ∧ s.1 137 27 = nI W.length ∧ s.1 137 28 = nI o ∧ o ≤ 4 ∧ s.1 137 26 = nI (B + ts.length) ∧ ts.length + W.length ≤ a ∧ (∀ i c, W[i]? = some c → s.1 155 i = nI c ∧ c < 128) ∧ ∀ i k, ts[i]? = some k → s.1 154 (B + i) = fT_code k
def dF (B cl : Nat) (s s' : gm_S) : Prop := s'.2 = s.2 ∧ ∀ c j, ¬ (c = 137 ∧ (j = 16 ∨ j = 17 ∨ j = 26 ∨ j = 27 ∨ j = 28)) → ¬ (c = 154 ∧ B ≤ j) → c ≠ 155 → ¬ (c = 153 ∧ j = cl) → s'.1 c j = s.1 c j
theorem dF_refl {B cl : Nat} {s : gm_S} : dF B cl s s := ⟨rfl, fun _ _ _ _ _ _ => rfl⟩
theorem dF_trans {B cl : Nat} {s s' s2 : gm_S} (h : dF B cl s s') (h2 : dF B cl s' s2) : dF B cl s s2 := ⟨h2.1.trans h.1, fun c j q1 q2 q3 q4 => (h2.2 c j q1 q2 q3 q4).trans (h.2 c j q1 q2 q3 q4)⟩
theorem dF_si {B cl k : Nat} {s : gm_S} {x : Int32} (hk : k = 16 ∨ k = 17 ∨ k = 26 ∨ k = 27 ∨ k = 28) : dF B cl s (gm_si s 137 k x) := by
  refine ⟨rfl, fun c j q1 _ _ _ => ?_⟩
  rw [gsi_1, if_neg (fun e => q1 ⟨e.1, by omega⟩)]
theorem dF_154 {B cl k : Nat} {s : gm_S} {x : Int32} (hk : B ≤ k) : dF B cl s (gm_si s 154 k x) := by
  refine ⟨rfl, fun c j _ q2 _ _ => ?_⟩
  rw [gsi_1, if_neg (fun e => q2 ⟨e.1, by omega⟩)]
theorem dF_155 {B cl k : Nat} {s : gm_S} {x : Int32} : dF B cl s (gm_si s 155 k x) := by
  refine ⟨rfl, fun c j _ _ q3 _ => ?_⟩
  rw [gsi_1, if_neg (fun e => q3 e.1)]
theorem dF_153 {B cl : Nat} {s : gm_S} {x : Int32} : dF B cl s (gm_si s 153 cl x) := by
  refine ⟨rfl, fun c j _ _ _ q4 => ?_⟩
  rw [gsi_1, if_neg (fun e => q4 e)]
theorem dB_F {B n cl : Nat} {b : Nat → Nat} {s s' : gm_S} (h : dB B n b s) (e : dF B cl s s') : dB B n b s' := by
  obtain ⟨h1, h2, h3, h4, h5, h6⟩ := h
  exact ⟨h1, h2, (e.2 _ _ (by omega) (by omega) (by omega) (by omega)).trans h3, h4, fun i hi => (e.2 _ _ (by omega) (by omega) (by omega) (by omega)).trans (h5 i hi), fun i hi => (e.2 _ _ (by omega) (by omega) (by omega) (by omega)).trans (h6 i hi)⟩
theorem dA_16 {B n a a' o : Nat} {s : gm_S} {W : List Nat} {ts : List fT} (h : dA B n s a W o ts) (hn : a' ≤ n) (ha : a ≤ a') : dA B n (gm_si s 137 16 (nI a')) a' W o ts := by
  obtain ⟨h1, h2, h3, h4, h5, h6, h7, h8, h9⟩ := h
  refine ⟨?_, hn, ?_, ?_, h5, ?_, by omega, fun i c hc => ?_, fun i k hk => ?_⟩
  · rw [gsi_1, if_pos ⟨rfl, rfl⟩]
  · rw [gsi_1, if_neg (fun e => by omega)]; exact h3
  · rw [gsi_1, if_neg (fun e => by omega)]; exact h4
  · rw [gsi_1, if_neg (fun e => by omega)]; exact h6
  · rw [gsi_1, if_neg (fun e => by omega)]; exact h8 i c hc
  · rw [gsi_1, if_neg (fun e => by omega)]; exact h9 i k hk
theorem dA_17 {B n a o : Nat} {s : gm_S} {W : List Nat} {ts : List fT} {x : Int32} (h : dA B n s a W o ts) : dA B n (gm_si s 137 17 x) a W o ts := by
  obtain ⟨h1, h2, h3, h4, h5, h6, h7, h8, h9⟩ := h
  refine ⟨?_, h2, ?_, ?_, h5, ?_, by omega, fun i c hc => ?_, fun i k hk => ?_⟩
  · rw [gsi_1, if_neg (fun e => by omega)]; exact h1
  · rw [gsi_1, if_neg (fun e => by omega)]; exact h3
  · rw [gsi_1, if_neg (fun e => by omega)]; exact h4
  · rw [gsi_1, if_neg (fun e => by omega)]; exact h6
  · rw [gsi_1, if_neg (fun e => by omega)]; exact h8 i c hc
  · rw [gsi_1, if_neg (fun e => by omega)]; exact h9 i k hk
def fr (j : Nat) : Nat := ([10, 14, 0, 6] : List Nat).getD j 0
theorem tx_fr : ∀ j, j < 4 → fr j ≤ 14 ∧ ∀ i, i < 6 → i < (wd j).length → kLt (fr j + i) = (wd j).getD i 0 ∧ fr j + i < 18 := by decide +kernel
theorem gz_01 : (0 : Int32) + 1 = 1 := rfl
theorem gz_11 : (1 : Int32) + 1 = 2 := rfl
theorem gz_20 : ((2 : Int32) ≤ 0) = False := eq_false (by decide)
theorem gz_21 : ((2 : Int32) ≤ 1) = False := eq_false (by decide)
theorem gz_22 : ((2 : Int32) ≤ 2) = True := eq_true (by decide)
section
variable {w : Nat × (Nat → Int32)} {d B cl n a c o : Nat} {b : Nat → Nat} {s : gm_S} {W : List Nat} {ts : List fT} {Q : Option Value → gc_M → Prop}
theorem d_next (h : dB B n b s) (ha : s.1 137 16 = nI a) (hn : a ≤ n) : gc_X w d 124 0 [some (.ref 137)] [] (gm_m s) Q = Q (some (.int (xn n b a))) (gm_m s) := by
  obtain ⟨h1, h2, h3, h4, h5, h6⟩ := h
  by_cases h1 : a < n
  · have hge : ¬ nI n ≤ nI a := nI_ge h1 (by omega)
    have i1 : vp_in (nI a) 100 := vp_in_nI (by omega) (by omega)
    have i2 : (nI a).toNatClampNeg = a := nI_clamp (by omega)
    have hv := h5 a h1
    simp only [E_X12_next_0, E_X12_next_1, E_X12_next_4, E_X12_next_5, E_X12_next_8, E_X12_next_11, E_X12_next_12, E_X12_next_15, E_X12_next_16, E_X12_next_19, E_X12_next_20, E_X12_next_23, E_X12_next_24, rk_137, rg_137_15, rg_137_16, rg_137_18, h3, ha, hge, ra_148, rv_148, i1, i2, hv, xn, h1, gnk_i, gnk_r, gnk_n, gi_1, Nat.reduceLT, if_true, if_false]
  · have hle : nI n ≤ nI a := nI_le (by omega) (by omega)
    simp only [E_X12_next_0, E_X12_next_1, E_X12_next_4, E_X12_next_5, E_X12_next_8, E_X12_next_11, E_X12_next_12, E_X12_next_15, E_X12_next_16, E_X12_next_19, E_X12_next_20, E_X12_next_23, E_X12_next_24, rk_137, rg_137_15, rg_137_16, h3, ha, hle, xn, h1, gnk_i, gnk_r, gnk_n, gi_1, Nat.reduceLT, if_true, if_false]
theorem d_takes (h : dB B n b s) (ha : s.1 137 16 = nI a) (hn : a ≤ n) (h0 : 0 < c) (hc : c < 128) : gc_X w (d + 1) 125 0 [some (.ref 137), some (.int (nI c))] [] (gm_m s) Q = if xt n b a = c then Q (some (.int 1)) (gm_m (gm_si s 137 16 (nI (a + 1)))) else Q (some (.int 0)) (gm_m s) := by
  have e := xn_eq (a := a) h.2.2.2.1 h0 hc
  by_cases h1 : xt n b a = c
  · rw [if_pos h1]
    simp only [E_X12_takes_0, E_X12_takes_1, E_X12_takes_4, E_X12_takes_5, E_X12_takes_8, E_X12_takes_9, E_X12_takes_10, E_X12_takes_11, E_X12_takes_12, E_X12_takes_15, E_X12_takes_16, E_X12_takes_17, E_X12_takes_20, E_X12_takes_21, d_next h ha hn, rc_137, rk_137, rg_137_16, rp_137_16, e, h1, ha, nI_1, gb_n0, gb_n1, List.map_nil, List.map_cons, List.sum_cons, List.sum_nil, gcat_i, gcat_r, gcat_l, Nat.reduceAdd, Nat.reduceLeDiff, Nat.zero_le, Option.toList, List.cons_append, List.nil_append, gnk_i, gnk_r, gnk_n, gi_1, Nat.reduceLT, if_true, if_false]
  · rw [if_neg h1]
    simp only [E_X12_takes_0, E_X12_takes_1, E_X12_takes_4, E_X12_takes_5, E_X12_takes_8, E_X12_takes_9, E_X12_takes_10, E_X12_takes_11, E_X12_takes_12, E_X12_takes_15, E_X12_takes_16, E_X12_takes_17, E_X12_takes_20, E_X12_takes_21, d_next h ha hn, rc_137, e, h1, gb_n0, gb_n1, List.map_nil, List.map_cons, List.sum_cons, List.sum_nil, gcat_i, gcat_r, gcat_l, Nat.reduceAdd, Nat.reduceLeDiff, Nat.zero_le, Option.toList, List.cons_append, List.nil_append, gnk_i, gnk_r, gnk_n, gi_1, Nat.reduceLT, if_true, if_false]
theorem d_in (hb : xb n b) {l h : Nat} (hl : 0 < l) (hl2 : l < 128) (hh : h < 128) : gB_in (xn n b a) (nI l) (nI h) = (decide (l ≤ xt n b a) && decide (xt n b a ≤ h)) := by
  unfold gB_in
  rw [Bool.eq_iff_iff]
  simp only [Bool.and_eq_true, Bool.not_eq_true', decide_eq_false_iff_not, decide_eq_true_eq, xn_lt hb hl hl2, xn_gt hb hh]
  omega
theorem d_dig (h : dB B n b s) (ha : s.1 137 16 = nI a) (hn : a ≤ n) : gc_X w (d + 1) 127 0 [some (.ref 137)] [] (gm_m s) Q = Q (some (.int (gb_i (decide (48 ≤ xt n b a) && decide (xt n b a ≤ 57))))) (gm_m s) := by
  have e : gB_in (xn n b a) 48 57 = (decide (48 ≤ xt n b a) && decide (xt n b a ≤ 57)) := d_in h.2.2.2.1 (by decide) (by decide) (by decide)
  have hv : vp_nar .boolean (gb_i (gB_in (xn n b a) 48 57)) = gb_i (gB_in (xn n b a) 48 57) := by
    cases gB_in (xn n b a) 48 57 <;> exact Eq.trans rfl rfl
  have hm := fun (Q : Option Value → gc_M → Prop) => m_in (w := w) (d := d) (s := s) (x := xn n b a) (y := 48) (z := 57) (Q := Q)
  simp only [E_X12_isDigit_0, E_X12_isDigit_1, E_X12_isDigit_2, E_X12_isDigit_5, E_X12_isDigit_7, E_X12_isDigit_9, E_X12_isDigit_12, d_next h ha hn, hm, rc_137, hv, List.map_nil, List.map_cons, List.sum_cons, List.sum_nil, gcat_i, gcat_r, gcat_l, Nat.reduceAdd, Nat.reduceLeDiff, Nat.zero_le, Option.toList, List.cons_append, List.nil_append, gnk_i, gnk_r, gnk_n, gi_1, Nat.reduceLT, if_true, if_false]
  rw [e]
theorem d_num_no (h : dB B n b s) (ha : s.1 137 16 = nI a) (hn : a ≤ n) (hp : pN (xt n b) a = none) : gc_X w (d + 2) 128 0 [some (.ref 137), none] [] (gm_m s) Q = Q (some (.int 0)) (gm_m s) := by
  have h1 : ¬ (48 ≤ xt n b a ∧ xt n b a ≤ 57) := by
    intro e
    unfold pN at hp
    rw [if_pos e] at hp
    split at hp <;> cases hp
  have e : (decide (48 ≤ xt n b a) && decide (xt n b a ≤ 57)) = false := by
    rw [Bool.eq_false_iff]
    simp only [ne_eq, Bool.and_eq_true, decide_eq_true_eq]
    exact h1
  have hd := fun (Q : Option Value → gc_M → Prop) => d_dig (w := w) (d := d) (Q := Q) h ha hn
  rw [e] at hd
  simp only [E_X12_takesNumber_0, E_X12_takesNumber_1, E_X12_takesNumber_4, E_X12_takesNumber_7, E_X12_takesNumber_8, E_X12_takesNumber_9, E_X12_takesNumber_10, E_X12_takesNumber_11, E_X12_takesNumber_14, E_X12_takesNumber_15, E_X12_takesNumber_16, E_X12_takesNumber_17, E_X12_takesNumber_18, E_X12_takesNumber_21, E_X12_takesNumber_22, E_X12_takesNumber_25, E_X12_takesNumber_28, E_X12_takesNumber_29, E_X12_takesNumber_31, E_X12_takesNumber_32, E_X12_takesNumber_35, E_X12_takesNumber_36, E_X12_takesNumber_37, E_X12_takesNumber_40, E_X12_takesNumber_41, E_X12_takesNumber_43, E_X12_takesNumber_44, E_X12_takesNumber_47, E_X12_takesNumber_48, E_X12_takesNumber_49, E_X12_takesNumber_52, E_X12_takesNumber_53, E_X12_takesNumber_54, E_X12_takesNumber_57, E_X12_takesNumber_60, E_X12_takesNumber_63, E_X12_takesNumber_64, hd, rc_137, gb_0, gb_n0, List.map_nil, List.map_cons, List.sum_cons, List.sum_nil, gcat_i, gcat_r, gcat_l, Nat.reduceAdd, Nat.reduceLeDiff, Nat.zero_le, Option.toList, List.cons_append, List.nil_append, gnk_i, gnk_r, gnk_n, gi_1, Nat.reduceLT, if_true, if_false]
theorem d_num_ok {a' v : Nat} (h : dB B n b s) (hA : dA B n s a W o ts) (hp : pN (xt n b) a = some (a', v)) (hQ : ∀ s', dF B cl s s' → dA B n s' a' W o ts → s'.1 137 17 = nI v → Q (some (.int 1)) (gm_m s')) : gc_X w (d + 2) 128 0 [some (.ref 137), none] [] (gm_m s) Q := by
  have hb := h.2.2.2.1
  have ha := hA.1
  have hn := hA.2.1
  have hlt := pN_lt hp
  unfold pN at hp
  split at hp
  · rename_i h1
    have x1 : xn n b a = nI (xt n b a) := xn_of (by omega)
    have y1 : (10 : Int32) * 0 + nI (xt n b a) - 48 = nI (xt n b a - 48) := by
      have q : nI (xt n b a) - 48 = nI (xt n b a - 48) := nI_sub (y := 48) h1.1
      rw [show (10 : Int32) * 0 = 0 from rfl, Int32.zero_add, q]
    have e1 : (decide (48 ≤ xt n b a) && decide (xt n b a ≤ 57)) = true := by
      simp only [Bool.and_eq_true, decide_eq_true_eq]
      exact h1
    have hd0 := fun (Q : Option Value → gc_M → Prop) => d_dig (w := w) (d := d) (Q := Q) h ha hn
    rw [e1] at hd0
    have hF0 : dF B cl s (gm_si s 137 17 0) := dF_si (by decide)
    have hB0 := dB_F h hF0
    have hA0 : dA B n (gm_si s 137 17 0) a W o ts := dA_17 hA
    have h170 : (gm_si s 137 17 0).1 137 17 = 0 := by rw [gsi_1, if_pos ⟨rfl, rfl⟩]
    have hd00 := fun (Q : Option Value → gc_M → Prop) => d_dig (w := w) (d := d) (Q := Q) hB0 hA0.1 hn
    rw [e1] at hd00
    have hF1 : dF B cl s (gm_si (gm_si (gm_si s 137 17 0) 137 17 (nI (xt n b a - 48))) 137 16 (nI (a + 1))) := dF_trans hF0 (dF_trans (dF_si (by decide)) (dF_si (by decide)))
    have hB1 := dB_F h hF1
    have hA1 : dA B n (gm_si (gm_si (gm_si s 137 17 0) 137 17 (nI (xt n b a - 48))) 137 16 (nI (a + 1))) (a + 1) W o ts := dA_16 (dA_17 hA0) (by split at hp <;> (cases hp; omega)) (by omega)
    have h171 : (gm_si (gm_si (gm_si s 137 17 0) 137 17 (nI (xt n b a - 48))) 137 16 (nI (a + 1))).1 137 17 = nI (xt n b a - 48) := by
      rw [gsi_1, if_neg (fun e => by omega), gsi_1, if_pos ⟨rfl, rfl⟩]
    have h161 : (gm_si (gm_si s 137 17 0) 137 17 (nI (xt n b a - 48))).1 137 16 = nI a := (dA_17 hA0 : dA B n _ a W o ts).1
    have hd1 := fun (Q : Option Value → gc_M → Prop) => d_dig (w := w) (d := d) (Q := Q) hB1 hA1.1 hA1.2.1
    have hn0 := fun (d : Nat) (Q : Option Value → gc_M → Prop) => d_next (w := w) (d := d) (Q := Q) hB0 hA0.1 hn
    have hn1 := fun (d : Nat) (Q : Option Value → gc_M → Prop) => d_next (w := w) (d := d) (Q := Q) hB1 hA1.1 hA1.2.1
    split at hp
    · rename_i h2
      have x2 : xn n b (a + 1) = nI (xt n b (a + 1)) := xn_of (by omega)
      have e2 : (decide (48 ≤ xt n b (a + 1)) && decide (xt n b (a + 1) ≤ 57)) = true := by
        simp only [Bool.and_eq_true, decide_eq_true_eq]
        exact h2
      rw [e2] at hd1
      have y2 : 10 * nI (xt n b a - 48) + nI (xt n b (a + 1)) - 48 = nI ((xt n b a - 48) * 10 + (xt n b (a + 1) - 48)) := by
        have m : 10 * nI (xt n b a - 48) = nI (10 * (xt n b a - 48)) := nI_mul 10 _
        have q : nI (10 * (xt n b a - 48) + xt n b (a + 1)) - 48 = nI (10 * (xt n b a - 48) + xt n b (a + 1) - 48) := nI_sub (y := 48) (by omega)
        rw [m, nI_add, q]
        congr 1
        omega
      have h162 : (gm_si (gm_si (gm_si (gm_si s 137 17 0) 137 17 (nI (xt n b a - 48))) 137 16 (nI (a + 1))) 137 17 (nI ((xt n b a - 48) * 10 + (xt n b (a + 1) - 48)))).1 137 16 = nI (a + 1) := by
        rw [gsi_1, if_neg (fun e => by omega)]
        exact hA1.1
      simp only [E_X12_takesNumber_0, E_X12_takesNumber_1, E_X12_takesNumber_4, E_X12_takesNumber_7, E_X12_takesNumber_8, E_X12_takesNumber_9, E_X12_takesNumber_10, E_X12_takesNumber_11, E_X12_takesNumber_14, E_X12_takesNumber_15, E_X12_takesNumber_16, E_X12_takesNumber_17, E_X12_takesNumber_18, E_X12_takesNumber_21, E_X12_takesNumber_22, E_X12_takesNumber_25, E_X12_takesNumber_28, E_X12_takesNumber_29, E_X12_takesNumber_31, E_X12_takesNumber_32, E_X12_takesNumber_35, E_X12_takesNumber_36, E_X12_takesNumber_37, E_X12_takesNumber_40, E_X12_takesNumber_41, E_X12_takesNumber_43, E_X12_takesNumber_44, E_X12_takesNumber_47, E_X12_takesNumber_48, E_X12_takesNumber_49, E_X12_takesNumber_52, E_X12_takesNumber_53, E_X12_takesNumber_54, E_X12_takesNumber_57, E_X12_takesNumber_60, E_X12_takesNumber_63, E_X12_takesNumber_64, hd0, hd00, hd1, hn0, hn1, rc_137, rk_137, rg_137_16, rg_137_17, rp_137_16, rp_137_17, x1, x2, h170, h171, h161, h162, y1, y2, nI_1, gb_1, gi_1, g1_0, gz_01, gz_11, gz_20, gz_21, gz_22, gb_n1, List.map_nil, List.map_cons, List.sum_cons, List.sum_nil, gcat_i, gcat_r, gcat_l, Nat.reduceAdd, Nat.reduceLeDiff, Nat.zero_le, Option.toList, List.cons_append, List.nil_append, gnk_i, gnk_r, gnk_n, gi_1, Nat.reduceLT, if_true, if_false]
      cases hp
      refine hQ _ (dF_trans hF1 (dF_trans (dF_si (by decide)) (dF_si (by decide)))) (dA_16 (dA_17 hA1) (by omega) (by omega)) ?_
      rw [gsi_1, if_neg (fun e => by omega), gsi_1, if_pos ⟨rfl, rfl⟩]
    · rename_i h2
      have e2 : (decide (48 ≤ xt n b (a + 1)) && decide (xt n b (a + 1) ≤ 57)) = false := by
        rw [Bool.eq_false_iff]
        simp only [ne_eq, Bool.and_eq_true, decide_eq_true_eq]
        exact h2
      rw [e2] at hd1
      simp only [E_X12_takesNumber_0, E_X12_takesNumber_1, E_X12_takesNumber_4, E_X12_takesNumber_7, E_X12_takesNumber_8, E_X12_takesNumber_9, E_X12_takesNumber_10, E_X12_takesNumber_11, E_X12_takesNumber_14, E_X12_takesNumber_15, E_X12_takesNumber_16, E_X12_takesNumber_17, E_X12_takesNumber_18, E_X12_takesNumber_21, E_X12_takesNumber_22, E_X12_takesNumber_25, E_X12_takesNumber_28, E_X12_takesNumber_29, E_X12_takesNumber_31, E_X12_takesNumber_32, E_X12_takesNumber_35, E_X12_takesNumber_36, E_X12_takesNumber_37, E_X12_takesNumber_40, E_X12_takesNumber_41, E_X12_takesNumber_43, E_X12_takesNumber_44, E_X12_takesNumber_47, E_X12_takesNumber_48, E_X12_takesNumber_49, E_X12_takesNumber_52, E_X12_takesNumber_53, E_X12_takesNumber_54, E_X12_takesNumber_57, E_X12_takesNumber_60, E_X12_takesNumber_63, E_X12_takesNumber_64, hd0, hd00, hd1, hn0, rc_137, rk_137, rg_137_16, rg_137_17, rp_137_16, rp_137_17, x1, h170, h161, y1, nI_1, gb_0, gb_1, gi_1, g1_0, gz_01, gz_20, gz_21, gb_n1, List.map_nil, List.map_cons, List.sum_cons, List.sum_nil, gcat_i, gcat_r, gcat_l, Nat.reduceAdd, Nat.reduceLeDiff, Nat.zero_le, Option.toList, List.cons_append, List.nil_append, gnk_i, gnk_r, gnk_n, gi_1, Nat.reduceLT, if_true, if_false]
      cases hp
      exact hQ _ hF1 hA1 h171
  · cases hp
theorem d_w_loop {j : Nat} (hj : j < 4) : ∀ (m i a : Nat) (s : gm_S) (ok : Bool) (a' : Nat), i + m = (wd j).length → dB B n b s → dA B n s a W o ts → pW (xt n b) ((wd j).drop i) a = (ok, a') → (ok = false → ∀ s', dF B cl s s' → s'.1 137 16 = nI a' → Q (some (.int 0)) (gm_m s')) → (ok = true → ∀ s', dF B cl s s' → dA B n s' a' W o ts → gc_X w (d + 2) 126 30 [some (.ref 137), some (.int (nI (fr j))), some (.int (nI (wd j).length)), some (.int (nI (wd j).length))] [] (gm_m s') Q) → gc_X w (d + 2) 126 2 [some (.ref 137), some (.int (nI (fr j))), some (.int (nI (wd j).length)), some (.int (nI i))] [] (gm_m s) Q := by
  obtain ⟨t1, t2, t3⟩ := tx_wd j hj
  obtain ⟨t4, t5⟩ := tx_fr j hj
  intro m
  induction m with
  | zero =>
    intro i a s ok a' hi hB hA hp h0 h1
    have e : i = (wd j).length := by omega
    rw [e, List.drop_length] at hp
    cases hp
    have e1 : nI (wd j).length ≤ nI i := nI_le (by omega) (by omega)
    rw [E_X12_takesWord_2]
    simp only [E_X12_takesWord_0, E_X12_takesWord_1, E_X12_takesWord_3, E_X12_takesWord_4, E_X12_takesWord_7, E_X12_takesWord_8, E_X12_takesWord_9, E_X12_takesWord_12, E_X12_takesWord_13, E_X12_takesWord_14, E_X12_takesWord_15, E_X12_takesWord_16, E_X12_takesWord_19, E_X12_takesWord_22, E_X12_takesWord_23, E_X12_takesWord_24, E_X12_takesWord_27, E_X12_takesWord_31, E_X12_takesWord_33, E_X12_takesWord_36, e1, List.map_nil, List.map_cons, List.sum_cons, List.sum_nil, gcat_i, gcat_r, gcat_l, Nat.reduceAdd, Nat.reduceLeDiff, Nat.zero_le, Option.toList, List.cons_append, List.nil_append, gnk_i, gnk_r, gnk_n, gi_1, Nat.reduceLT, if_true, if_false]
    rw [e]
    exact h1 rfl s dF_refl hA
  | succ m ih =>
    intro i a s ok a' hi hB hA hp h0 h1
    have hil : i < (wd j).length := by omega
    rw [drop_getD hil] at hp
    obtain ⟨u1, u2, u3⟩ := t3 i (by omega)
    obtain ⟨u4, u5⟩ := t5 i (by omega) hil
    have u3 := u3 hil
    have e1 : ¬ nI (wd j).length ≤ nI i := nI_ge (by omega) (by omega)
    have i1 : vp_in (nI (fr j + i)) 18 := vp_in_nI u5 (by omega)
    have i2 : (nI (fr j + i)).toNatClampNeg = fr j + i := nI_clamp (by omega)
    have i3 : s.1 156 (fr j + i) = nI ((wd j).getD i 0) := (hB.2.2.2.2.2 _ u5).trans (by rw [u4])
    rw [E_X12_takesWord_2]
    unfold pW at hp
    by_cases hx : xt n b a = (wd j).getD i 0
    · rw [if_pos hx] at hp
      have ha : a < n := xt_lt (b := b) (by omega)
      have hA1 : dA B n (gm_si s 137 16 (nI (a + 1))) (a + 1) W o ts := dA_16 hA (by omega) (by omega)
      have hF1 : dF B cl s (gm_si s 137 16 (nI (a + 1))) := dF_si (by decide)
      simp only [E_X12_takesWord_0, E_X12_takesWord_1, E_X12_takesWord_3, E_X12_takesWord_4, E_X12_takesWord_7, E_X12_takesWord_8, E_X12_takesWord_9, E_X12_takesWord_12, E_X12_takesWord_13, E_X12_takesWord_14, E_X12_takesWord_15, E_X12_takesWord_16, E_X12_takesWord_19, E_X12_takesWord_22, E_X12_takesWord_23, E_X12_takesWord_24, E_X12_takesWord_27, E_X12_takesWord_31, E_X12_takesWord_33, E_X12_takesWord_36, rk_137, rc_137, rg_137_29, ra_156, rv_156, nI_add, i1, i2, i3, d_takes hB hA.1 hA.2.1 u3 u2, hx, e1, g1_0, gi_1, nI_1, List.map_nil, List.map_cons, List.sum_cons, List.sum_nil, gcat_i, gcat_r, gcat_l, Nat.reduceAdd, Nat.reduceLeDiff, Nat.zero_le, Option.toList, List.cons_append, List.nil_append, gnk_i, gnk_r, gnk_n, gi_1, Nat.reduceLT, if_true, if_false]
      exact ih (i + 1) (a + 1) _ ok a' (by omega) (dB_F hB hF1) hA1 hp (fun q s' hF => h0 q s' (dF_trans hF1 hF)) (fun q s' hF => h1 q s' (dF_trans hF1 hF))
    · rw [if_neg hx] at hp
      cases hp
      simp only [E_X12_takesWord_0, E_X12_takesWord_1, E_X12_takesWord_3, E_X12_takesWord_4, E_X12_takesWord_7, E_X12_takesWord_8, E_X12_takesWord_9, E_X12_takesWord_12, E_X12_takesWord_13, E_X12_takesWord_14, E_X12_takesWord_15, E_X12_takesWord_16, E_X12_takesWord_19, E_X12_takesWord_22, E_X12_takesWord_23, E_X12_takesWord_24, E_X12_takesWord_27, E_X12_takesWord_31, E_X12_takesWord_33, E_X12_takesWord_36, rk_137, rc_137, rg_137_29, ra_156, rv_156, nI_add, i1, i2, i3, d_takes hB hA.1 hA.2.1 u3 u2, hx, e1, gb_n0, List.map_nil, List.map_cons, List.sum_cons, List.sum_nil, gcat_i, gcat_r, gcat_l, Nat.reduceAdd, Nat.reduceLeDiff, Nat.zero_le, Option.toList, List.cons_append, List.nil_append, gnk_i, gnk_r, gnk_n, gi_1, Nat.reduceLT, if_true, if_false]
      exact h0 rfl s dF_refl hA.1
/-- takesWord: no, at a'; or yes -/
theorem d_word {j : Nat} (hj : j < 4) {x1 x2 : Int32} (y1 : x1 = nI (fr j)) (y2 : x2 = nI (wd j).length) (hB : dB B n b s) (hA : dA B n s a W o ts) (h0 : ∀ a' s', (pW (xt n b) (wd j) a = (false, a') ∨ (pW (xt n b) (wd j) a = (true, a') ∧ xt n b a' ≠ 32)) → dF B cl s s' → s'.1 137 16 = nI a' → Q (some (.int 0)) (gm_m s')) (h1 : ∀ a' s', pW (xt n b) (wd j) a = (true, a') → xt n b a' = 32 → dF B cl s s' → dA B n s' (a' + 1) W o ts → Q (some (.int 1)) (gm_m s')) : gc_X w (d + 2) 126 0 [some (.ref 137), some (.int x1), some (.int x2), none] [] (gm_m s) Q := by
  subst y1
  subst y2
  have hl := d_w_loop (w := w) (d := d) (B := B) (cl := cl) (n := n) (o := o) (b := b) (W := W) (ts := ts) (Q := Q) hj (wd j).length 0 a s
  rw [nI_0] at hl
  simp only [E_X12_takesWord_0, E_X12_takesWord_1, gnk_i, gnk_r, gnk_n, gi_1, Nat.reduceLT, if_true, if_false]
  refine hl (pW (xt n b) (wd j) a).1 (pW (xt n b) (wd j) a).2 (by omega) hB hA rfl (fun q s1 hF1 h16 => ?_) (fun q s1 hF1 hA1 => ?_)
  · exact h0 _ s1 (Or.inl (Prod.ext q rfl)) hF1 h16
  · have hB1 := dB_F hB hF1
    have hs := fun (Q : Option Value → gc_M → Prop) => d_takes (w := w) (d := d) (c := 32) (Q := Q) hB1 hA1.1 hA1.2.1 (by decide) (by decide)
    by_cases h32 : xt n b (pW (xt n b) (wd j) a).2 = 32
    · simp only [h32, if_true] at hs
      have hs : ∀ Q, gc_X w (d + 1) 125 0 [some (.ref 137), some (.int 32)] [] (gm_m s1) Q = Q (some (.int 1)) (gm_m (gm_si s1 137 16 (nI ((pW (xt n b) (wd j) a).2 + 1)))) := hs
      have ha : (pW (xt n b) (wd j) a).2 < n := xt_lt (b := b) (by omega)
      simp only [E_X12_takesWord_0, E_X12_takesWord_1, E_X12_takesWord_3, E_X12_takesWord_4, E_X12_takesWord_7, E_X12_takesWord_8, E_X12_takesWord_9, E_X12_takesWord_12, E_X12_takesWord_13, E_X12_takesWord_14, E_X12_takesWord_15, E_X12_takesWord_16, E_X12_takesWord_19, E_X12_takesWord_22, E_X12_takesWord_23, E_X12_takesWord_24, E_X12_takesWord_27, E_X12_takesWord_30, E_X12_takesWord_31, E_X12_takesWord_33, E_X12_takesWord_36, hs, rc_137, gb_n1, List.map_nil, List.map_cons, List.sum_cons, List.sum_nil, gcat_i, gcat_r, gcat_l, Nat.reduceAdd, Nat.reduceLeDiff, Nat.zero_le, Option.toList, List.cons_append, List.nil_append, gnk_i, gnk_r, gnk_n, gi_1, Nat.reduceLT, if_true, if_false]
      exact h1 _ _ (Prod.ext q rfl) h32 (dF_trans hF1 (dF_si (by decide))) (dA_16 hA1 (by omega) (by omega))
    · simp only [h32, if_false] at hs
      have hs : ∀ Q, gc_X w (d + 1) 125 0 [some (.ref 137), some (.int 32)] [] (gm_m s1) Q = Q (some (.int 0)) (gm_m s1) := hs
      simp only [E_X12_takesWord_0, E_X12_takesWord_1, E_X12_takesWord_3, E_X12_takesWord_4, E_X12_takesWord_7, E_X12_takesWord_8, E_X12_takesWord_9, E_X12_takesWord_12, E_X12_takesWord_13, E_X12_takesWord_14, E_X12_takesWord_15, E_X12_takesWord_16, E_X12_takesWord_19, E_X12_takesWord_22, E_X12_takesWord_23, E_X12_takesWord_24, E_X12_takesWord_27, E_X12_takesWord_30, E_X12_takesWord_31, E_X12_takesWord_33, E_X12_takesWord_36, hs, rc_137, gb_n0, List.map_nil, List.map_cons, List.sum_cons, List.sum_nil, gcat_i, gcat_r, gcat_l, Nat.reduceAdd, Nat.reduceLeDiff, Nat.zero_le, Option.toList, List.cons_append, List.nil_append, gnk_i, gnk_r, gnk_n, gi_1, Nat.reduceLT, if_true, if_false]
      exact h0 _ s1 (Or.inr ⟨Prod.ext q rfl, h32⟩) hF1 hA1.1
end
