/-! FIRM, a clause: the reference -/
/-- at place a, ts emitted from B on; whatever waits -/
def dC (B n : Nat) (s : gm_S) (a : Nat) (ts : List fT) : Prop := s.1 137 16 = nI a ∧ a ≤ n ∧ s.1 137 26 = nI (B + ts.length) ∧ ts.length ≤ a ∧ ∀ i k, ts[i]? = some k → s.1 154 (B + i) = fT_code k
theorem dC_16 {B n a a' : Nat} {s : gm_S} {ts : List fT} (h : dC B n s a ts) (hn : a' ≤ n) (ha : a ≤ a') : dC B n (gm_si s 137 16 (nI a')) a' ts := by
  obtain ⟨h1, h2, h3, h4, h5⟩ := h
  refine ⟨?_, hn, ?_, by omega, fun i k hk => ?_⟩
  · rw [gsi_1, if_pos ⟨rfl, rfl⟩]
  · rw [gsi_1, if_neg (fun e => by omega)]; exact h3
  · rw [gsi_1, if_neg (fun e => by omega)]; exact h5 i k hk
theorem dC_17 {B n a : Nat} {s : gm_S} {ts : List fT} {x : Int32} (h : dC B n s a ts) : dC B n (gm_si s 137 17 x) a ts := by
  obtain ⟨h1, h2, h3, h4, h5⟩ := h
  refine ⟨?_, h2, ?_, h4, fun i k hk => ?_⟩
  · rw [gsi_1, if_neg (fun e => by omega)]; exact h1
  · rw [gsi_1, if_neg (fun e => by omega)]; exact h3
  · rw [gsi_1, if_neg (fun e => by omega)]; exact h5 i k hk
theorem dC_cl {B n a c j : Nat} {s : gm_S} {ts : List fT} {x : Int32} (h : dC B n s a ts) (hc : c ≠ 137 ∧ c ≠ 154) : dC B n (gm_si s c j x) a ts := by
  obtain ⟨h1, h2, h3, h4, h5⟩ := h
  refine ⟨?_, h2, ?_, h4, fun i k hk => ?_⟩
  · rw [gsi_1, if_neg (fun e => by omega)]; exact h1
  · rw [gsi_1, if_neg (fun e => by omega)]; exact h3
  · rw [gsi_1, if_neg (fun e => by omega)]; exact h5 i k hk
theorem dC_A {B n a o : Nat} {s : gm_S} {W : List Nat} {ts : List fT} (h : dA B n s a W o ts) : dC B n s a ts := by
  obtain ⟨h1, h2, h3, h4, h5, h6, h7, h8, h9⟩ := h
  exact ⟨h1, h2, h6, by omega, h9⟩
section
variable {w : Nat × (Nat → Int32)} {d B cl n a c o : Nat} {b : Nat → Nat} {s : gm_S} {W : List Nat} {ts : List fT} {Q : Option Value → gc_M → Prop}
theorem d_numc {a' v : Nat} (h : dB B n b s) (hA : dC B n s a ts) (hp : pN (xt n b) a = some (a', v)) (hQ : ∀ s', dF B cl s s' → dC B n s' a' ts → s'.1 137 17 = nI v → Q (some (.int 1)) (gm_m s')) : gc_X w (d + 2) 128 0 [some (.ref 137), none] [] (gm_m s) Q := by
  have hb := h.2.2.2.1
  have ha := hA.1
  have hn := hA.2.1
  have hlt := pN_lt hp
  unfold pN at hp
  split at hp
  · rename_i h1
    have x1 : xn n b a = nI (xt n b a) := xn_of (by omega)
    have y1 : (10 : Int32) * 0 + nI (xt n b a) - 48 = nI (xt n b a - 48) := by
      have q : nI (xt n b a) - 48 = nI (xt n b a - 48) := nI_sub (y := 48) h1.1
      rw [show (10 : Int32) * 0 = 0 from rfl, Int32.zero_add, q]
    have e1 : (decide (48 ≤ xt n b a) && decide (xt n b a ≤ 57)) = true := by
      simp only [Bool.and_eq_true, decide_eq_true_eq]
      exact h1
    have hd0 := fun (Q : Option Value → gc_M → Prop) => d_dig (w := w) (d := d) (Q := Q) h ha hn
    rw [e1] at hd0
    have hF0 : dF B cl s (gm_si s 137 17 0) := dF_si (by decide)
    have hB0 := dB_F h hF0
    have hA0 : dC B n (gm_si s 137 17 0) a ts := dC_17 hA
    have h170 : (gm_si s 137 17 0).1 137 17 = 0 := by rw [gsi_1, if_pos ⟨rfl, rfl⟩]
    have hd00 := fun (Q : Option Value → gc_M → Prop) => d_dig (w := w) (d := d) (Q := Q) hB0 hA0.1 hn
    rw [e1] at hd00
    have hF1 : dF B cl s (gm_si (gm_si (gm_si s 137 17 0) 137 17 (nI (xt n b a - 48))) 137 16 (nI (a + 1))) := dF_trans hF0 (dF_trans (dF_si (by decide)) (dF_si (by decide)))
    have hB1 := dB_F h hF1
    have hA1 : dC B n (gm_si (gm_si (gm_si s 137 17 0) 137 17 (nI (xt n b a - 48))) 137 16 (nI (a + 1))) (a + 1) ts := dC_16 (dC_17 hA0) (by split at hp <;> (cases hp; omega)) (by omega)
    have h171 : (gm_si (gm_si (gm_si s 137 17 0) 137 17 (nI (xt n b a - 48))) 137 16 (nI (a + 1))).1 137 17 = nI (xt n b a - 48) := by
      rw [gsi_1, if_neg (fun e => by omega), gsi_1, if_pos ⟨rfl, rfl⟩]
    have h161 : (gm_si (gm_si s 137 17 0) 137 17 (nI (xt n b a - 48))).1 137 16 = nI a := (dC_17 hA0 : dC B n _ a ts).1
    have hd1 := fun (Q : Option Value → gc_M → Prop) => d_dig (w := w) (d := d) (Q := Q) hB1 hA1.1 hA1.2.1
    have hn0 := fun (d : Nat) (Q : Option Value → gc_M → Prop) => d_next (w := w) (d := d) (Q := Q) hB0 hA0.1 hn
    have hn1 := fun (d : Nat) (Q : Option Value → gc_M → Prop) => d_next (w := w) (d := d) (Q := Q) hB1 hA1.1 hA1.2.1
    split at hp
    · rename_i h2
      have x2 : xn n b (a + 1) = nI (xt n b (a + 1)) := xn_of (by omega)
      have e2 : (decide (48 ≤ xt n b (a + 1)) && decide (xt n b (a + 1) ≤ 57)) = true := by
        simp only [Bool.and_eq_true, decide_eq_true_eq]
        exact h2
      rw [e2] at hd1
      have y2 : 10 * nI (xt n b a - 48) + nI (xt n b (a + 1)) - 48 = nI ((xt n b a - 48) * 10 + (xt n b (a + 1) - 48)) := by
        have m : 10 * nI (xt n b a - 48) = nI (10 * (xt n b a - 48)) := nI_mul 10 _
        have q : nI (10 * (xt n b a - 48) + xt n b (a + 1)) - 48 = nI (10 * (xt n b a - 48) + xt n b (a + 1) - 48) := nI_sub (y := 48) (by omega)
        rw [m, nI_add, q]
        congr 1
        omega
      have h162 : (gm_si (gm_si (gm_si (gm_si s 137 17 0) 137 17 (nI (xt n b a - 48))) 137 16 (nI (a + 1))) 137 17 (nI ((xt n b a - 48) * 10 + (xt n b (a + 1) - 48)))).1 137 16 = nI (a + 1) := by
        rw [gsi_1, if_neg (fun e => by omega)]
        exact hA1.1
      simp only [E_X12_takesNumber_0, E_X12_takesNumber_1, E_X12_takesNumber_4, E_X12_takesNumber_7, E_X12_takesNumber_8, E_X12_takesNumber_9, E_X12_takesNumber_10, E_X12_takesNumber_11, E_X12_takesNumber_14, E_X12_takesNumber_15, E_X12_takesNumber_16, E_X12_takesNumber_17, E_X12_takesNumber_18, E_X12_takesNumber_21, E_X12_takesNumber_22, E_X12_takesNumber_25, E_X12_takesNumber_28, E_X12_takesNumber_29, E_X12_takesNumber_31, E_X12_takesNumber_32, E_X12_takesNumber_35, E_X12_takesNumber_36, E_X12_takesNumber_37, E_X12_takesNumber_40, E_X12_takesNumber_41, E_X12_takesNumber_43, E_X12_takesNumber_44, E_X12_takesNumber_47, E_X12_takesNumber_48, E_X12_takesNumber_49, E_X12_takesNumber_52, E_X12_takesNumber_53, E_X12_takesNumber_54, E_X12_takesNumber_57, E_X12_takesNumber_60, E_X12_takesNumber_63, E_X12_takesNumber_64, hd0, hd00, hd1, hn0, hn1, rc_137, rk_137, rg_137_16, rg_137_17, rp_137_16, rp_137_17, x1, x2, h170, h171, h161, h162, y1, y2, nI_1, gb_1, gi_1, g1_0, gz_01, gz_11, gz_20, gz_21, gz_22, gb_n1, List.map_nil, List.map_cons, List.sum_cons, List.sum_nil, gcat_i, gcat_r, gcat_l, Nat.reduceAdd, Nat.reduceLeDiff, Nat.zero_le, Option.toList, List.cons_append, List.nil_append, gnk_i, gnk_r, gnk_n, gi_1, Nat.reduceLT, if_true, if_false]
      cases hp
      refine hQ _ (dF_trans hF1 (dF_trans (dF_si (by decide)) (dF_si (by decide)))) (dC_16 (dC_17 hA1) (by omega) (by omega)) ?_
      rw [gsi_1, if_neg (fun e => by omega), gsi_1, if_pos ⟨rfl, rfl⟩]
    · rename_i h2
      have e2 : (decide (48 ≤ xt n b (a + 1)) && decide (xt n b (a + 1) ≤ 57)) = false := by
        rw [Bool.eq_false_iff]
        simp only [ne_eq, Bool.and_eq_true, decide_eq_true_eq]
        exact h2
      rw [e2] at hd1
      simp only [E_X12_takesNumber_0, E_X12_takesNumber_1, E_X12_takesNumber_4, E_X12_takesNumber_7, E_X12_takesNumber_8, E_X12_takesNumber_9, E_X12_takesNumber_10, E_X12_takesNumber_11, E_X12_takesNumber_14, E_X12_takesNumber_15, E_X12_takesNumber_16, E_X12_takesNumber_17, E_X12_takesNumber_18, E_X12_takesNumber_21, E_X12_takesNumber_22, E_X12_takesNumber_25, E_X12_takesNumber_28, E_X12_takesNumber_29, E_X12_takesNumber_31, E_X12_takesNumber_32, E_X12_takesNumber_35, E_X12_takesNumber_36, E_X12_takesNumber_37, E_X12_takesNumber_40, E_X12_takesNumber_41, E_X12_takesNumber_43, E_X12_takesNumber_44, E_X12_takesNumber_47, E_X12_takesNumber_48, E_X12_takesNumber_49, E_X12_takesNumber_52, E_X12_takesNumber_53, E_X12_takesNumber_54, E_X12_takesNumber_57, E_X12_takesNumber_60, E_X12_takesNumber_63, E_X12_takesNumber_64, hd0, hd00, hd1, hn0, rc_137, rk_137, rg_137_16, rg_137_17, rp_137_16, rp_137_17, x1, h170, h161, y1, nI_1, gb_0, gb_1, gi_1, g1_0, gz_01, gz_20, gz_21, gb_n1, List.map_nil, List.map_cons, List.sum_cons, List.sum_nil, gcat_i, gcat_r, gcat_l, Nat.reduceAdd, Nat.reduceLeDiff, Nat.zero_le, Option.toList, List.cons_append, List.nil_append, gnk_i, gnk_r, gnk_n, gi_1, Nat.reduceLT, if_true, if_false]
      cases hp
      exact hQ _ hF1 hA1 h171
  · cases hp
theorem d_wc_loop {j : Nat} (hj : j < 4) : ∀ (m i a : Nat) (s : gm_S) (ok : Bool) (a' : Nat), i + m = (wd j).length → dB B n b s → dC B n s a ts → pW (xt n b) ((wd j).drop i) a = (ok, a') → (ok = false → ∀ s', dF B cl s s' → s'.1 137 16 = nI a' → Q (some (.int 0)) (gm_m s')) → (ok = true → ∀ s', dF B cl s s' → dC B n s' a' ts → gc_X w (d + 2) 126 30 [some (.ref 137), some (.int (nI (fr j))), some (.int (nI (wd j).length)), some (.int (nI (wd j).length))] [] (gm_m s') Q) → gc_X w (d + 2) 126 2 [some (.ref 137), some (.int (nI (fr j))), some (.int (nI (wd j).length)), some (.int (nI i))] [] (gm_m s) Q := by
  obtain ⟨t1, t2, t3⟩ := tx_wd j hj
  obtain ⟨t4, t5⟩ := tx_fr j hj
  intro m
  induction m with
  | zero =>
    intro i a s ok a' hi hB hA hp h0 h1
    have e : i = (wd j).length := by omega
    rw [e, List.drop_length] at hp
    cases hp
    have e1 : nI (wd j).length ≤ nI i := nI_le (by omega) (by omega)
    rw [E_X12_takesWord_2]
    simp only [E_X12_takesWord_0, E_X12_takesWord_1, E_X12_takesWord_3, E_X12_takesWord_4, E_X12_takesWord_7, E_X12_takesWord_8, E_X12_takesWord_9, E_X12_takesWord_12, E_X12_takesWord_13, E_X12_takesWord_14, E_X12_takesWord_15, E_X12_takesWord_16, E_X12_takesWord_19, E_X12_takesWord_22, E_X12_takesWord_23, E_X12_takesWord_24, E_X12_takesWord_27, E_X12_takesWord_31, E_X12_takesWord_33, E_X12_takesWord_36, e1, List.map_nil, List.map_cons, List.sum_cons, List.sum_nil, gcat_i, gcat_r, gcat_l, Nat.reduceAdd, Nat.reduceLeDiff, Nat.zero_le, Option.toList, List.cons_append, List.nil_append, gnk_i, gnk_r, gnk_n, gi_1, Nat.reduceLT, if_true, if_false]
    rw [e]
    exact h1 rfl s dF_refl hA
  | succ m ih =>
    intro i a s ok a' hi hB hA hp h0 h1
    have hil : i < (wd j).length := by omega
    rw [drop_getD hil] at hp
    obtain ⟨u1, u2, u3⟩ := t3 i (by omega)
    obtain ⟨u4, u5⟩ := t5 i (by omega) hil
    have u3 := u3 hil
    have e1 : ¬ nI (wd j).length ≤ nI i := nI_ge (by omega) (by omega)
    have i1 : vp_in (nI (fr j + i)) 18 := vp_in_nI u5 (by omega)
    have i2 : (nI (fr j + i)).toNatClampNeg = fr j + i := nI_clamp (by omega)
    have i3 : s.1 156 (fr j + i) = nI ((wd j).getD i 0) := (hB.2.2.2.2.2 _ u5).trans (by rw [u4])
    rw [E_X12_takesWord_2]
    unfold pW at hp
    by_cases hx : xt n b a = (wd j).getD i 0
    · rw [if_pos hx] at hp
      have ha : a < n := xt_lt (b := b) (by omega)
      have hA1 : dC B n (gm_si s 137 16 (nI (a + 1))) (a + 1) ts := dC_16 hA (by omega) (by omega)
      have hF1 : dF B cl s (gm_si s 137 16 (nI (a + 1))) := dF_si (by decide)
      simp only [E_X12_takesWord_0, E_X12_takesWord_1, E_X12_takesWord_3, E_X12_takesWord_4, E_X12_takesWord_7, E_X12_takesWord_8, E_X12_takesWord_9, E_X12_takesWord_12, E_X12_takesWord_13, E_X12_takesWord_14, E_X12_takesWord_15, E_X12_takesWord_16, E_X12_takesWord_19, E_X12_takesWord_22, E_X12_takesWord_23, E_X12_takesWord_24, E_X12_takesWord_27, E_X12_takesWord_31, E_X12_takesWord_33, E_X12_takesWord_36, rk_137, rc_137, rg_137_29, ra_156, rv_156, nI_add, i1, i2, i3, d_takes hB hA.1 hA.2.1 u3 u2, hx, e1, g1_0, gi_1, nI_1, List.map_nil, List.map_cons, List.sum_cons, List.sum_nil, gcat_i, gcat_r, gcat_l, Nat.reduceAdd, Nat.reduceLeDiff, Nat.zero_le, Option.toList, List.cons_append, List.nil_append, gnk_i, gnk_r, gnk_n, gi_1, Nat.reduceLT, if_true, if_false]
      exact ih (i + 1) (a + 1) _ ok a' (by omega) (dB_F hB hF1) hA1 hp (fun q s' hF => h0 q s' (dF_trans hF1 hF)) (fun q s' hF => h1 q s' (dF_trans hF1 hF))
    · rw [if_neg hx] at hp
      cases hp
      simp only [E_X12_takesWord_0, E_X12_takesWord_1, E_X12_takesWord_3, E_X12_takesWord_4, E_X12_takesWord_7, E_X12_takesWord_8, E_X12_takesWord_9, E_X12_takesWord_12, E_X12_takesWord_13, E_X12_takesWord_14, E_X12_takesWord_15, E_X12_takesWord_16, E_X12_takesWord_19, E_X12_takesWord_22, E_X12_takesWord_23, E_X12_takesWord_24, E_X12_takesWord_27, E_X12_takesWord_31, E_X12_takesWord_33, E_X12_takesWord_36, rk_137, rc_137, rg_137_29, ra_156, rv_156, nI_add, i1, i2, i3, d_takes hB hA.1 hA.2.1 u3 u2, hx, e1, gb_n0, List.map_nil, List.map_cons, List.sum_cons, List.sum_nil, gcat_i, gcat_r, gcat_l, Nat.reduceAdd, Nat.reduceLeDiff, Nat.zero_le, Option.toList, List.cons_append, List.nil_append, gnk_i, gnk_r, gnk_n, gi_1, Nat.reduceLT, if_true, if_false]
      exact h0 rfl s dF_refl hA.1
theorem d_wordc {j : Nat} (hj : j < 4) {x1 x2 : Int32} (y1 : x1 = nI (fr j)) (y2 : x2 = nI (wd j).length) (hB : dB B n b s) (hA : dC B n s a ts) (h0 : ∀ a' s', (pW (xt n b) (wd j) a = (false, a') ∨ (pW (xt n b) (wd j) a = (true, a') ∧ xt n b a' ≠ 32)) → dF B cl s s' → s'.1 137 16 = nI a' → Q (some (.int 0)) (gm_m s')) (h1 : ∀ a' s', pW (xt n b) (wd j) a = (true, a') → xt n b a' = 32 → dF B cl s s' → dC B n s' (a' + 1) ts → Q (some (.int 1)) (gm_m s')) : gc_X w (d + 2) 126 0 [some (.ref 137), some (.int x1), some (.int x2), none] [] (gm_m s) Q := by
  subst y1
  subst y2
  have hl := d_wc_loop (w := w) (d := d) (B := B) (cl := cl) (n := n) (b := b) (ts := ts) (Q := Q) hj (wd j).length 0 a s
  rw [nI_0] at hl
  simp only [E_X12_takesWord_0, E_X12_takesWord_1, gnk_i, gnk_r, gnk_n, gi_1, Nat.reduceLT, if_true, if_false]
  refine hl (pW (xt n b) (wd j) a).1 (pW (xt n b) (wd j) a).2 (by omega) hB hA rfl (fun q s1 hF1 h16 => ?_) (fun q s1 hF1 hA1 => ?_)
  · exact h0 _ s1 (Or.inl (Prod.ext q rfl)) hF1 h16
  · have hB1 := dB_F hB hF1
    have hs := fun (Q : Option Value → gc_M → Prop) => d_takes (w := w) (d := d) (c := 32) (Q := Q) hB1 hA1.1 hA1.2.1 (by decide) (by decide)
    by_cases h32 : xt n b (pW (xt n b) (wd j) a).2 = 32
    · simp only [h32, if_true] at hs
      have hs : ∀ Q, gc_X w (d + 1) 125 0 [some (.ref 137), some (.int 32)] [] (gm_m s1) Q = Q (some (.int 1)) (gm_m (gm_si s1 137 16 (nI ((pW (xt n b) (wd j) a).2 + 1)))) := hs
      have ha : (pW (xt n b) (wd j) a).2 < n := xt_lt (b := b) (by omega)
      simp only [E_X12_takesWord_0, E_X12_takesWord_1, E_X12_takesWord_3, E_X12_takesWord_4, E_X12_takesWord_7, E_X12_takesWord_8, E_X12_takesWord_9, E_X12_takesWord_12, E_X12_takesWord_13, E_X12_takesWord_14, E_X12_takesWord_15, E_X12_takesWord_16, E_X12_takesWord_19, E_X12_takesWord_22, E_X12_takesWord_23, E_X12_takesWord_24, E_X12_takesWord_27, E_X12_takesWord_30, E_X12_takesWord_31, E_X12_takesWord_33, E_X12_takesWord_36, hs, rc_137, gb_n1, List.map_nil, List.map_cons, List.sum_cons, List.sum_nil, gcat_i, gcat_r, gcat_l, Nat.reduceAdd, Nat.reduceLeDiff, Nat.zero_le, Option.toList, List.cons_append, List.nil_append, gnk_i, gnk_r, gnk_n, gi_1, Nat.reduceLT, if_true, if_false]
      exact h1 _ _ (Prod.ext q rfl) h32 (dF_trans hF1 (dF_si (by decide))) (dC_16 hA1 (by omega) (by omega))
    · simp only [h32, if_false] at hs
      have hs : ∀ Q, gc_X w (d + 1) 125 0 [some (.ref 137), some (.int 32)] [] (gm_m s1) Q = Q (some (.int 0)) (gm_m s1) := hs
      simp only [E_X12_takesWord_0, E_X12_takesWord_1, E_X12_takesWord_3, E_X12_takesWord_4, E_X12_takesWord_7, E_X12_takesWord_8, E_X12_takesWord_9, E_X12_takesWord_12, E_X12_takesWord_13, E_X12_takesWord_14, E_X12_takesWord_15, E_X12_takesWord_16, E_X12_takesWord_19, E_X12_takesWord_22, E_X12_takesWord_23, E_X12_takesWord_24, E_X12_takesWord_27, E_X12_takesWord_30, E_X12_takesWord_31, E_X12_takesWord_33, E_X12_takesWord_36, hs, rc_137, gb_n0, List.map_nil, List.map_cons, List.sum_cons, List.sum_nil, gcat_i, gcat_r, gcat_l, Nat.reduceAdd, Nat.reduceLeDiff, Nat.zero_le, Option.toList, List.cons_append, List.nil_append, gnk_i, gnk_r, gnk_n, gi_1, Nat.reduceLT, if_true, if_false]
      exact h0 _ s1 (Or.inr ⟨Prod.ext q rfl, h32⟩) hF1 hA1.1
end
/-- all is kept but what a clause of the number cl writes -/
def dH (B cl : Nat) (s s' : gm_S) : Prop := s'.2 = s.2 ∧ ∀ c j, ¬ (c = 137 ∧ (j = 16 ∨ j = 17 ∨ j = 26 ∨ j = 27 ∨ j = 28)) → ¬ (c = 154 ∧ B ≤ j) → c ≠ 155 → ¬ (150 ≤ c ∧ c ≤ 153 ∧ j = cl) → s'.1 c j = s.1 c j
theorem dH_F {B cl : Nat} {s s' : gm_S} (h : dF B cl s s') : dH B cl s s' := ⟨h.1, fun c j q1 q2 q3 q4 => h.2 c j q1 q2 q3 (fun e => q4 ⟨by omega, by omega, e.2⟩)⟩
theorem dH_refl {B cl : Nat} {s : gm_S} : dH B cl s s := ⟨rfl, fun _ _ _ _ _ _ => rfl⟩
theorem dH_trans {B cl : Nat} {s s' s2 : gm_S} (h : dH B cl s s') (h2 : dH B cl s' s2) : dH B cl s s2 := ⟨h2.1.trans h.1, fun c j q1 q2 q3 q4 => (h2.2 c j q1 q2 q3 q4).trans (h.2 c j q1 q2 q3 q4)⟩
theorem dH_si {B cl k : Nat} {s : gm_S} {x : Int32} (hk : k = 16 ∨ k = 17 ∨ k = 26 ∨ k = 27 ∨ k = 28) : dH B cl s (gm_si s 137 k x) := dH_F (dF_si hk)
theorem dH_cl {B cl c : Nat} {s : gm_S} {x : Int32} (hc : 150 ≤ c ∧ c ≤ 153) : dH B cl s (gm_si s c cl x) := by
  refine ⟨rfl, fun c' j _ _ _ q4 => ?_⟩
  rw [gsi_1, if_neg (fun e => q4 ⟨by omega, by omega, e.2⟩)]
theorem dB_H {B n cl : Nat} {b : Nat → Nat} {s s' : gm_S} (h : dB B n b s) (e : dH B cl s s') : dB B n b s' := by
  obtain ⟨h1, h2, h3, h4, h5, h6⟩ := h
  exact ⟨h1, h2, (e.2 _ _ (by omega) (by omega) (by omega) (by omega)).trans h3, h4, fun i hi => (e.2 _ _ (by omega) (by omega) (by omega) (by omega)).trans (h5 i hi), fun i hi => (e.2 _ _ (by omega) (by omega) (by omega) (by omega)).trans (h6 i hi)⟩
def hj (x : Nat) : Nat := if x = 98 then 0 else if x = 115 then 2 else if x = 119 then 3 else 1
def wv (j : Nat) : Nat := ([2, 3, 0, 1] : List Nat).getD j 0
theorem hj_4 {x : Nat} : hj x < 4 := by
  unfold hj
  repeat' split
  all_goals decide
section
variable {w : Nat × (Nat → Int32)} {d B cl n a a1 c o : Nat} {b : Nat → Nat} {s : gm_S} {W : List Nat} {ts u : List fT} {Q : Option Value → gc_M → Prop}
theorem d_takesE_ok (hcl : cl < 60) (h : dE_ok w B cl n b 0 a a1 u) (h38 : xt n b a1 ≠ 38) (h124 : xt n b a1 ≠ 124) (hB : dB B n b s) (hC : dC B n s a ts) (hQ : ∀ s', dH B cl s s' → dC B n s' a1 (ts ++ u) → s'.1 150 cl = s.1 150 cl → s'.1 151 cl = s.1 151 cl → s'.1 152 cl = nI (B + ts.length) → s'.1 153 cl = nI (B + ts.length + u.length) → Q (some (.int 1)) (gm_m s')) : gc_X w (d + 4) 134 0 [some (.ref 137), some (.int (nI cl)), none, none] [] (gm_m s) Q := by
  have h26 := hC.2.2.1
  have i1 : vp_in (nI cl) 60 := vp_in_nI hcl (by omega)
  have i2 : (nI cl).toNatClampNeg = cl := nI_clamp (by omega)
  have hs : ∀ s', s' = gm_si (gm_si (gm_si s 137 27 0) 137 28 0) 152 cl (nI (B + ts.length)) → dH B cl s s' ∧ dA B n s' a [] 0 ts ∧ s'.1 150 cl = s.1 150 cl ∧ s'.1 151 cl = s.1 151 cl ∧ s'.1 152 cl = nI (B + ts.length) := by
    intro s' e
    subst e
    obtain ⟨h1, h2, h3, h4, h5⟩ := hC
    refine ⟨dH_trans (dH_si (by decide)) (dH_trans (dH_si (by decide)) (dH_cl (by decide))), ⟨?_, h2, ?_, ?_, by omega, ?_, by simp only [List.length_nil]; omega, fun i c hc => (by cases hc), fun i k hk => ?_⟩, ?_, ?_, ?_⟩
    · rw [gsi_1, if_neg (fun e => by omega), gsi_1, if_neg (fun e => by omega), gsi_1, if_neg (fun e => by omega)]; exact h1
    · rw [gsi_1, if_neg (fun e => by omega), gsi_1, if_neg (fun e => by omega), gsi_1, if_pos ⟨rfl, rfl⟩]; rfl
    · rw [gsi_1, if_neg (fun e => by omega), gsi_1, if_pos ⟨rfl, rfl⟩]; rfl
    · rw [gsi_1, if_neg (fun e => by omega), gsi_1, if_neg (fun e => by omega), gsi_1, if_neg (fun e => by omega)]; exact h3
    · rw [gsi_1, if_neg (fun e => by omega), gsi_1, if_neg (fun e => by omega), gsi_1, if_neg (fun e => by omega)]; exact h5 i k hk
    · rw [gsi_1, if_neg (fun e => by omega), gsi_1, if_neg (fun e => by omega), gsi_1, if_neg (fun e => by omega)]
    · rw [gsi_1, if_neg (fun e => by omega), gsi_1, if_neg (fun e => by omega), gsi_1, if_neg (fun e => by omega)]
    · rw [gsi_1, if_pos ⟨rfl, rfl⟩]
  obtain ⟨z1, z2, z3, z4, z5⟩ := hs _ rfl
  simp only [E_X12_takesE_0, E_X12_takesE_1, E_X12_takesE_2, E_X12_takesE_5, E_X12_takesE_6, E_X12_takesE_7, E_X12_takesE_10, E_X12_takesE_11, E_X12_takesE_14, E_X12_takesE_15, E_X12_takesE_16, E_X12_takesE_19, E_X12_takesE_20, E_X12_takesE_21, E_X12_takesE_23, E_X12_takesE_26, E_X12_takesE_27, E_X12_takesE_28, E_X12_takesE_31, E_X12_takesE_32, E_X12_takesE_34, E_X12_takesE_37, E_X12_takesE_38, E_X12_takesE_40, E_X12_takesE_43, E_X12_takesE_44, E_X12_takesE_47, E_X12_takesE_48, E_X12_takesE_51, E_X12_takesE_52, E_X12_takesE_53, E_X12_takesE_54, E_X12_takesE_55, E_X12_takesE_58, E_X12_takesE_59, E_X12_takesE_60, E_X12_takesE_63, E_X12_takesE_64, E_X12_takesE_67, E_X12_takesE_68, E_X12_takesE_71, E_X12_takesE_72, E_X12_takesE_73, E_X12_takesE_74, E_X12_takesE_75, E_X12_takesE_78, E_X12_takesE_79, E_X12_takesE_80, E_X12_takesE_83, E_X12_takesE_84, E_X12_takesE_85, E_X12_takesE_88, E_X12_takesE_89, E_X12_takesE_90, E_X12_takesE_93, E_X12_takesE_96, E_X12_takesE_97, E_X12_takesE_100, E_X12_takesE_103, E_X12_takesE_104, E_X12_takesE_105, E_X12_takesE_108, E_X12_takesE_109, E_X12_takesE_110, E_X12_takesE_111, E_X12_takesE_113, E_X12_takesE_116, E_X12_takesE_117, E_X12_takesE_119, E_X12_takesE_122, E_X12_takesE_123, E_X12_takesE_124, E_X12_takesE_127, E_X12_takesE_128, E_X12_takesE_131, E_X12_takesE_132, E_X12_takesE_135, E_X12_takesE_136, E_X12_takesE_137, E_X12_takesE_138, E_X12_takesE_139, E_X12_takesE_142, E_X12_takesE_143, E_X12_takesE_144, E_X12_takesE_147, E_X12_takesE_148, E_X12_takesE_149, E_X12_takesE_150, E_X12_takesE_151, E_X12_takesE_154, E_X12_takesE_155, E_X12_takesE_156, E_X12_takesE_159, E_X12_takesE_162, E_X12_takesE_163, E_X12_takesE_165, E_X12_takesE_168, E_X12_takesE_169, E_X12_takesE_172, E_X12_takesE_173, E_X12_takesE_174, E_X12_takesE_177, E_X12_takesE_178, E_X12_takesE_179, E_X12_takesE_182, E_X12_takesE_185, E_X12_takesE_186, E_X12_takesE_187, E_X12_takesE_188, E_X12_takesE_190, E_X12_takesE_193, E_X12_takesE_194, E_X12_takesE_195, E_X12_takesE_196, E_X12_takesE_197, E_X12_takesE_200, E_X12_takesE_201, E_X12_takesE_202, E_X12_takesE_205, E_X12_takesE_206, E_X12_takesE_207, E_X12_takesE_210, E_X12_takesE_211, E_X12_takesE_212, E_X12_takesE_215, E_X12_takesE_216, E_X12_takesE_217, E_X12_takesE_220, E_X12_takesE_221, E_X12_takesE_222, E_X12_takesE_225, E_X12_takesE_226, E_X12_takesE_229, h26, rk_137, rc_137, rg_137_22, rg_137_26, rp_137_27, rp_137_28, ra_152, rs_152, i1, i2, gsi_1, Nat.reduceEqDiff, false_and, and_false, List.map_nil, List.map_cons, List.sum_cons, List.sum_nil, gcat_i, gcat_r, gcat_l, Nat.reduceAdd, Nat.reduceLeDiff, Nat.zero_le, Option.toList, List.cons_append, List.nil_append, gnk_i, gnk_r, gnk_n, gi_1, Nat.reduceLT, if_true, if_false]
  refine h d [] ts _ Q none (Or.inl rfl) (dB_H hB z1) z2 (fun s2 l32 p' q' ts' hF2 hA2 e => ?_)
  rw [List.nil_append] at hA2
  refine d_st_end (cl := cl) (d := d + 2) h38 h124 hcl (dB_H hB (dH_trans z1 (dH_F hF2))) hA2 (fun s3 hF3 hA3 h153 => ?_)
  rw [e] at hA3 h153
  rw [List.length_append, ← Nat.add_assoc] at h153
  have hF := dF_trans hF2 hF3
  exact hQ s3 (dH_trans z1 (dH_F hF)) (dC_A hA3) ((hF.2 _ _ (by omega) (by omega) (by omega) (by omega)).trans z3) ((hF.2 _ _ (by omega) (by omega) (by omega) (by omega)).trans z4) ((hF.2 _ _ (by omega) (by omega) (by omega) (by omega)).trans z5) h153
theorem d_takesE_no (hcl : cl < 60) (h : dE_no w B cl n b 0 a a1) (hB : dB B n b s) (hC : dC B n s a ts) (hQ : ∀ s', dH B cl s s' → s'.1 137 16 = nI a1 → Q (some (.int 0)) (gm_m s')) : gc_X w (d + 4) 134 0 [some (.ref 137), some (.int (nI cl)), none, none] [] (gm_m s) Q := by
  have h26 := hC.2.2.1
  have i1 : vp_in (nI cl) 60 := vp_in_nI hcl (by omega)
  have i2 : (nI cl).toNatClampNeg = cl := nI_clamp (by omega)
  have hs : ∀ s', s' = gm_si (gm_si (gm_si s 137 27 0) 137 28 0) 152 cl (nI (B + ts.length)) → dH B cl s s' ∧ dA B n s' a [] 0 ts := by
    intro s' e
    subst e
    obtain ⟨h1, h2, h3, h4, h5⟩ := hC
    refine ⟨dH_trans (dH_si (by decide)) (dH_trans (dH_si (by decide)) (dH_cl (by decide))), ⟨?_, h2, ?_, ?_, by omega, ?_, by simp only [List.length_nil]; omega, fun i c hc => (by cases hc), fun i k hk => ?_⟩⟩
    · rw [gsi_1, if_neg (fun e => by omega), gsi_1, if_neg (fun e => by omega), gsi_1, if_neg (fun e => by omega)]; exact h1
    · rw [gsi_1, if_neg (fun e => by omega), gsi_1, if_neg (fun e => by omega), gsi_1, if_pos ⟨rfl, rfl⟩]; rfl
    · rw [gsi_1, if_neg (fun e => by omega), gsi_1, if_pos ⟨rfl, rfl⟩]; rfl
    · rw [gsi_1, if_neg (fun e => by omega), gsi_1, if_neg (fun e => by omega), gsi_1, if_neg (fun e => by omega)]; exact h3
    · rw [gsi_1, if_neg (fun e => by omega), gsi_1, if_neg (fun e => by omega), gsi_1, if_neg (fun e => by omega)]; exact h5 i k hk
  obtain ⟨z1, z2⟩ := hs _ rfl
  simp only [E_X12_takesE_0, E_X12_takesE_1, E_X12_takesE_2, E_X12_takesE_5, E_X12_takesE_6, E_X12_takesE_7, E_X12_takesE_10, E_X12_takesE_11, E_X12_takesE_14, E_X12_takesE_15, E_X12_takesE_16, E_X12_takesE_19, E_X12_takesE_20, E_X12_takesE_21, E_X12_takesE_23, E_X12_takesE_26, E_X12_takesE_27, E_X12_takesE_28, E_X12_takesE_31, E_X12_takesE_32, E_X12_takesE_34, E_X12_takesE_37, E_X12_takesE_38, E_X12_takesE_40, E_X12_takesE_43, E_X12_takesE_44, E_X12_takesE_47, E_X12_takesE_48, E_X12_takesE_51, E_X12_takesE_52, E_X12_takesE_53, E_X12_takesE_54, E_X12_takesE_55, E_X12_takesE_58, E_X12_takesE_59, E_X12_takesE_60, E_X12_takesE_63, E_X12_takesE_64, E_X12_takesE_67, E_X12_takesE_68, E_X12_takesE_71, E_X12_takesE_72, E_X12_takesE_73, E_X12_takesE_74, E_X12_takesE_75, E_X12_takesE_78, E_X12_takesE_79, E_X12_takesE_80, E_X12_takesE_83, E_X12_takesE_84, E_X12_takesE_85, E_X12_takesE_88, E_X12_takesE_89, E_X12_takesE_90, E_X12_takesE_93, E_X12_takesE_96, E_X12_takesE_97, E_X12_takesE_100, E_X12_takesE_103, E_X12_takesE_104, E_X12_takesE_105, E_X12_takesE_108, E_X12_takesE_109, E_X12_takesE_110, E_X12_takesE_111, E_X12_takesE_113, E_X12_takesE_116, E_X12_takesE_117, E_X12_takesE_119, E_X12_takesE_122, E_X12_takesE_123, E_X12_takesE_124, E_X12_takesE_127, E_X12_takesE_128, E_X12_takesE_131, E_X12_takesE_132, E_X12_takesE_135, E_X12_takesE_136, E_X12_takesE_137, E_X12_takesE_138, E_X12_takesE_139, E_X12_takesE_142, E_X12_takesE_143, E_X12_takesE_144, E_X12_takesE_147, E_X12_takesE_148, E_X12_takesE_149, E_X12_takesE_150, E_X12_takesE_151, E_X12_takesE_154, E_X12_takesE_155, E_X12_takesE_156, E_X12_takesE_159, E_X12_takesE_162, E_X12_takesE_163, E_X12_takesE_165, E_X12_takesE_168, E_X12_takesE_169, E_X12_takesE_172, E_X12_takesE_173, E_X12_takesE_174, E_X12_takesE_177, E_X12_takesE_178, E_X12_takesE_179, E_X12_takesE_182, E_X12_takesE_185, E_X12_takesE_186, E_X12_takesE_187, E_X12_takesE_188, E_X12_takesE_190, E_X12_takesE_193, E_X12_takesE_194, E_X12_takesE_195, E_X12_takesE_196, E_X12_takesE_197, E_X12_takesE_200, E_X12_takesE_201, E_X12_takesE_202, E_X12_takesE_205, E_X12_takesE_206, E_X12_takesE_207, E_X12_takesE_210, E_X12_takesE_211, E_X12_takesE_212, E_X12_takesE_215, E_X12_takesE_216, E_X12_takesE_217, E_X12_takesE_220, E_X12_takesE_221, E_X12_takesE_222, E_X12_takesE_225, E_X12_takesE_226, E_X12_takesE_229, h26, rk_137, rc_137, rg_137_22, rg_137_26, rp_137_27, rp_137_28, ra_152, rs_152, i1, i2, gsi_1, Nat.reduceEqDiff, false_and, and_false, List.map_nil, List.map_cons, List.sum_cons, List.sum_nil, gcat_i, gcat_r, gcat_l, Nat.reduceAdd, Nat.reduceLeDiff, Nat.zero_le, Option.toList, List.cons_append, List.nil_append, gnk_i, gnk_r, gnk_n, gi_1, Nat.reduceLT, if_true, if_false]
  exact h d [] ts _ Q none (Or.inl rfl) (dB_H hB z1) z2 (fun s2 hF2 h16 => hQ s2 (dH_trans z1 (dH_F hF2)) h16)
/-- takesHead -/
theorem d_head (hcl : cl < 60) (hB : dB B n b s) (hC : dC B n s a ts) (h0 : ∀ a' s', (pW (xt n b) (wd (hj (xt n b a))) a = (false, a') ∨ (pW (xt n b) (wd (hj (xt n b a))) a = (true, a') ∧ xt n b a' ≠ 32)) → dH B cl s s' → s'.1 137 16 = nI a' → Q (some (.int 0)) (gm_m s')) (h1 : ∀ a' s', pW (xt n b) (wd (hj (xt n b a))) a = (true, a') → xt n b a' = 32 → dH B cl s s' → dC B n s' (a' + 1) ts → s'.1 150 cl = nI (wv (hj (xt n b a))) → Q (some (.int 1)) (gm_m s')) : gc_X w (d + 3) 135 0 [some (.ref 137), some (.int (nI cl))] [] (gm_m s) Q := by
  have hb := hB.2.2.2.1
  have i1 : vp_in (nI cl) 60 := vp_in_nI hcl (by omega)
  have i2 : (nI cl).toNatClampNeg = cl := nI_clamp (by omega)
  have e98 : (xn n b a = 98) = (xt n b a = 98) := xn_eq (c := 98) hb (by decide) (by decide)
  have e115 : (xn n b a = 115) = (xt n b a = 115) := xn_eq (c := 115) hb (by decide) (by decide)
  have e119 : (xn n b a = 119) = (xt n b a = 119) := xn_eq (c := 119) hb (by decide) (by decide)
  have gen : ∀ (j : Nat) (x0 x1 x2 : Int32), j < 4 → hj (xt n b a) = j → x0 = nI (wv j) → x1 = nI (fr j) → x2 = nI (wd j).length → ∀ pc, (∀ v s', gc_X w (d + 3) 135 pc [some (.ref 137), some (.int (nI cl))] [.int v] (gm_m s') Q = if vp_nar .boolean v = v then Q (some (.int v)) (gm_m s') else gc_X w (d + 3) 135 pc [some (.ref 137), some (.int (nI cl))] [.int v] (gm_m s') Q) → gc_X w (d + 2) 126 0 [some (.ref 137), some (.int x1), some (.int x2), none] [] (gm_m (gm_si s 150 cl x0)) (fun r M2 => gc_X w (d + 3) 135 pc [some (.ref 137), some (.int (nI cl))] (r.toList ++ []) M2 Q) := by
    intro j x0 x1 x2 hj4 hje y0 y1 y2 pc hpc
    subst hje
    have hC1 : dC B n (gm_si s 150 cl x0) a ts := dC_cl hC (by decide)
    have hH1 : dH B cl s (gm_si s 150 cl x0) := dH_cl (by decide)
    have e150 : (gm_si s 150 cl x0).1 150 cl = x0 := by rw [gsi_1, if_pos ⟨rfl, rfl⟩]
    refine d_wordc (cl := cl) hj4 y1 y2 (dB_H hB hH1) hC1 (fun a' s' hw hF h16 => ?_) (fun a' s' hw h32 hF hC' => ?_)
    · show gc_X w (d + 3) 135 pc [some (.ref 137), some (.int (nI cl))] [.int 0] (gm_m s') Q
      rw [hpc 0 s', if_pos gb_n0]
      exact h0 a' s' hw (dH_trans hH1 (dH_F hF)) h16
    · show gc_X w (d + 3) 135 pc [some (.ref 137), some (.int (nI cl))] [.int 1] (gm_m s') Q
      rw [hpc 1 s', if_pos gb_n1]
      exact h1 a' s' hw h32 (dH_trans hH1 (dH_F hF)) hC' (((hF.2 _ _ (by omega) (by omega) (by omega) (by omega)).trans e150).trans y0)
  by_cases c98 : xt n b a = 98
  · have hje : hj (xt n b a) = 0 := by unfold hj; rw [if_pos c98]
    have g := gen 0 2 10 4 (by decide) hje rfl rfl rfl 84 (fun v s' => by by_cases hv : vp_nar .boolean v = v <;> simp only [hv, if_true, if_false, E_X12_takesHead_0, E_X12_takesHead_1, E_X12_takesHead_4, E_X12_takesHead_40, E_X12_takesHead_41, E_X12_takesHead_44, E_X12_takesHead_45, E_X12_takesHead_46, E_X12_takesHead_47, E_X12_takesHead_48, E_X12_takesHead_49, E_X12_takesHead_51, E_X12_takesHead_54, E_X12_takesHead_55, E_X12_takesHead_56, E_X12_takesHead_59, E_X12_takesHead_60, E_X12_takesHead_61, E_X12_takesHead_62, E_X12_takesHead_63, E_X12_takesHead_65, E_X12_takesHead_66, E_X12_takesHead_69, E_X12_takesHead_70, E_X12_takesHead_71, E_X12_takesHead_74, E_X12_takesHead_75, E_X12_takesHead_76, E_X12_takesHead_77, E_X12_takesHead_78, E_X12_takesHead_80, E_X12_takesHead_81, E_X12_takesHead_84, E_X12_takesHead_85, E_X12_takesHead_86, E_X12_takesHead_89, E_X12_takesHead_90, E_X12_takesHead_91, E_X12_takesHead_92, E_X12_takesHead_93, E_X12_takesHead_95, E_X12_takesHead_96, E_X12_takesHead_99])
    simp only [E_X12_takesHead_0, E_X12_takesHead_1, E_X12_takesHead_4, E_X12_takesHead_40, E_X12_takesHead_41, E_X12_takesHead_44, E_X12_takesHead_45, E_X12_takesHead_46, E_X12_takesHead_47, E_X12_takesHead_48, E_X12_takesHead_49, E_X12_takesHead_51, E_X12_takesHead_54, E_X12_takesHead_55, E_X12_takesHead_56, E_X12_takesHead_59, E_X12_takesHead_60, E_X12_takesHead_61, E_X12_takesHead_62, E_X12_takesHead_63, E_X12_takesHead_65, E_X12_takesHead_66, E_X12_takesHead_69, E_X12_takesHead_70, E_X12_takesHead_71, E_X12_takesHead_74, E_X12_takesHead_75, E_X12_takesHead_76, E_X12_takesHead_77, E_X12_takesHead_78, E_X12_takesHead_80, E_X12_takesHead_81, E_X12_takesHead_85, E_X12_takesHead_86, E_X12_takesHead_89, E_X12_takesHead_90, E_X12_takesHead_91, E_X12_takesHead_92, E_X12_takesHead_93, E_X12_takesHead_95, E_X12_takesHead_96, E_X12_takesHead_99, d_next hB hC.1 hC.2.1, e98, c98, rk_137, rc_137, rg_137_20, ra_150, rs_150, i1, i2, List.map_nil, List.map_cons, List.sum_cons, List.sum_nil, gcat_i, gcat_r, gcat_l, Nat.reduceAdd, Nat.reduceLeDiff, Nat.zero_le, Option.toList, List.cons_append, List.nil_append, gnk_i, gnk_r, gnk_n, gi_1, Nat.reduceLT, if_true, if_false]
    exact g
  by_cases c115 : xt n b a = 115
  · have hje : hj (xt n b a) = 2 := by unfold hj; rw [if_neg c98, if_pos c115]
    have g := gen 2 0 0 6 (by decide) hje rfl rfl rfl 54 (fun v s' => by by_cases hv : vp_nar .boolean v = v <;> simp only [hv, if_true, if_false, E_X12_takesHead_0, E_X12_takesHead_1, E_X12_takesHead_4, E_X12_takesHead_40, E_X12_takesHead_41, E_X12_takesHead_44, E_X12_takesHead_45, E_X12_takesHead_46, E_X12_takesHead_47, E_X12_takesHead_48, E_X12_takesHead_49, E_X12_takesHead_51, E_X12_takesHead_54, E_X12_takesHead_55, E_X12_takesHead_56, E_X12_takesHead_59, E_X12_takesHead_60, E_X12_takesHead_61, E_X12_takesHead_62, E_X12_takesHead_63, E_X12_takesHead_65, E_X12_takesHead_66, E_X12_takesHead_69, E_X12_takesHead_70, E_X12_takesHead_71, E_X12_takesHead_74, E_X12_takesHead_75, E_X12_takesHead_76, E_X12_takesHead_77, E_X12_takesHead_78, E_X12_takesHead_80, E_X12_takesHead_81, E_X12_takesHead_84, E_X12_takesHead_85, E_X12_takesHead_86, E_X12_takesHead_89, E_X12_takesHead_90, E_X12_takesHead_91, E_X12_takesHead_92, E_X12_takesHead_93, E_X12_takesHead_95, E_X12_takesHead_96, E_X12_takesHead_99])
    simp only [E_X12_takesHead_0, E_X12_takesHead_1, E_X12_takesHead_4, E_X12_takesHead_40, E_X12_takesHead_41, E_X12_takesHead_44, E_X12_takesHead_45, E_X12_takesHead_46, E_X12_takesHead_47, E_X12_takesHead_48, E_X12_takesHead_49, E_X12_takesHead_51, E_X12_takesHead_55, E_X12_takesHead_56, E_X12_takesHead_59, E_X12_takesHead_60, E_X12_takesHead_61, E_X12_takesHead_62, E_X12_takesHead_63, E_X12_takesHead_65, E_X12_takesHead_66, E_X12_takesHead_69, E_X12_takesHead_70, E_X12_takesHead_71, E_X12_takesHead_74, E_X12_takesHead_75, E_X12_takesHead_76, E_X12_takesHead_77, E_X12_takesHead_78, E_X12_takesHead_80, E_X12_takesHead_81, E_X12_takesHead_84, E_X12_takesHead_85, E_X12_takesHead_86, E_X12_takesHead_89, E_X12_takesHead_90, E_X12_takesHead_91, E_X12_takesHead_92, E_X12_takesHead_93, E_X12_takesHead_95, E_X12_takesHead_96, E_X12_takesHead_99, d_next hB hC.1 hC.2.1, e98, e115, c98, c115, rk_137, rc_137, rg_137_20, ra_150, rs_150, i1, i2, List.map_nil, List.map_cons, List.sum_cons, List.sum_nil, gcat_i, gcat_r, gcat_l, Nat.reduceAdd, Nat.reduceLeDiff, Nat.zero_le, Option.toList, List.cons_append, List.nil_append, gnk_i, gnk_r, gnk_n, gi_1, Nat.reduceLT, if_true, if_false]
    first | exact g | (simp (decide := true) only [E_X12_takesHead_0, E_X12_takesHead_1, E_X12_takesHead_4, E_X12_takesHead_40, E_X12_takesHead_41, E_X12_takesHead_44, E_X12_takesHead_45, E_X12_takesHead_46, E_X12_takesHead_47, E_X12_takesHead_48, E_X12_takesHead_49, E_X12_takesHead_51, E_X12_takesHead_55, E_X12_takesHead_56, E_X12_takesHead_59, E_X12_takesHead_60, E_X12_takesHead_61, E_X12_takesHead_62, E_X12_takesHead_63, E_X12_takesHead_65, E_X12_takesHead_66, E_X12_takesHead_69, E_X12_takesHead_70, E_X12_takesHead_71, E_X12_takesHead_74, E_X12_takesHead_75, E_X12_takesHead_76, E_X12_takesHead_77, E_X12_takesHead_78, E_X12_takesHead_80, E_X12_takesHead_81, E_X12_takesHead_84, E_X12_takesHead_85, E_X12_takesHead_86, E_X12_takesHead_89, E_X12_takesHead_90, E_X12_takesHead_91, E_X12_takesHead_92, E_X12_takesHead_93, E_X12_takesHead_95, E_X12_takesHead_96, E_X12_takesHead_99, rk_137, rc_137, rg_137_20, ra_150, rs_150, i1, i2, List.map_nil, List.map_cons, List.sum_cons, List.sum_nil, gcat_i, gcat_r, gcat_l, Nat.reduceAdd, Nat.reduceLeDiff, Nat.zero_le, Option.toList, List.cons_append, List.nil_append, gnk_i, gnk_r, gnk_n, gi_1, Nat.reduceLT, if_true, if_false]; exact g)
  by_cases c119 : xt n b a = 119
  · have hje : hj (xt n b a) = 3 := by unfold hj; rw [if_neg c98, if_neg c115, if_pos c119]
    have g := gen 3 1 6 4 (by decide) hje rfl rfl rfl 69 (fun v s' => by by_cases hv : vp_nar .boolean v = v <;> simp only [hv, if_true, if_false, E_X12_takesHead_0, E_X12_takesHead_1, E_X12_takesHead_4, E_X12_takesHead_40, E_X12_takesHead_41, E_X12_takesHead_44, E_X12_takesHead_45, E_X12_takesHead_46, E_X12_takesHead_47, E_X12_takesHead_48, E_X12_takesHead_49, E_X12_takesHead_51, E_X12_takesHead_54, E_X12_takesHead_55, E_X12_takesHead_56, E_X12_takesHead_59, E_X12_takesHead_60, E_X12_takesHead_61, E_X12_takesHead_62, E_X12_takesHead_63, E_X12_takesHead_65, E_X12_takesHead_66, E_X12_takesHead_69, E_X12_takesHead_70, E_X12_takesHead_71, E_X12_takesHead_74, E_X12_takesHead_75, E_X12_takesHead_76, E_X12_takesHead_77, E_X12_takesHead_78, E_X12_takesHead_80, E_X12_takesHead_81, E_X12_takesHead_84, E_X12_takesHead_85, E_X12_takesHead_86, E_X12_takesHead_89, E_X12_takesHead_90, E_X12_takesHead_91, E_X12_takesHead_92, E_X12_takesHead_93, E_X12_takesHead_95, E_X12_takesHead_96, E_X12_takesHead_99])
    simp only [E_X12_takesHead_0, E_X12_takesHead_1, E_X12_takesHead_4, E_X12_takesHead_40, E_X12_takesHead_41, E_X12_takesHead_44, E_X12_takesHead_45, E_X12_takesHead_46, E_X12_takesHead_47, E_X12_takesHead_48, E_X12_takesHead_49, E_X12_takesHead_51, E_X12_takesHead_54, E_X12_takesHead_55, E_X12_takesHead_56, E_X12_takesHead_59, E_X12_takesHead_60, E_X12_takesHead_61, E_X12_takesHead_62, E_X12_takesHead_63, E_X12_takesHead_65, E_X12_takesHead_66, E_X12_takesHead_70, E_X12_takesHead_71, E_X12_takesHead_74, E_X12_takesHead_75, E_X12_takesHead_76, E_X12_takesHead_77, E_X12_takesHead_78, E_X12_takesHead_80, E_X12_takesHead_81, E_X12_takesHead_84, E_X12_takesHead_85, E_X12_takesHead_86, E_X12_takesHead_89, E_X12_takesHead_90, E_X12_takesHead_91, E_X12_takesHead_92, E_X12_takesHead_93, E_X12_takesHead_95, E_X12_takesHead_96, E_X12_takesHead_99, d_next hB hC.1 hC.2.1, e98, e115, e119, c98, c115, c119, rk_137, rc_137, rg_137_20, ra_150, rs_150, i1, i2, List.map_nil, List.map_cons, List.sum_cons, List.sum_nil, gcat_i, gcat_r, gcat_l, Nat.reduceAdd, Nat.reduceLeDiff, Nat.zero_le, Option.toList, List.cons_append, List.nil_append, gnk_i, gnk_r, gnk_n, gi_1, Nat.reduceLT, if_true, if_false]
    first | exact g | (simp (decide := true) only [E_X12_takesHead_0, E_X12_takesHead_1, E_X12_takesHead_4, E_X12_takesHead_40, E_X12_takesHead_41, E_X12_takesHead_44, E_X12_takesHead_45, E_X12_takesHead_46, E_X12_takesHead_47, E_X12_takesHead_48, E_X12_takesHead_49, E_X12_takesHead_51, E_X12_takesHead_54, E_X12_takesHead_55, E_X12_takesHead_56, E_X12_takesHead_59, E_X12_takesHead_60, E_X12_takesHead_61, E_X12_takesHead_62, E_X12_takesHead_63, E_X12_takesHead_65, E_X12_takesHead_66, E_X12_takesHead_70, E_X12_takesHead_71, E_X12_takesHead_74, E_X12_takesHead_75, E_X12_takesHead_76, E_X12_takesHead_77, E_X12_takesHead_78, E_X12_takesHead_80, E_X12_takesHead_81, E_X12_takesHead_84, E_X12_takesHead_85, E_X12_takesHead_86, E_X12_takesHead_89, E_X12_takesHead_90, E_X12_takesHead_91, E_X12_takesHead_92, E_X12_takesHead_93, E_X12_takesHead_95, E_X12_takesHead_96, E_X12_takesHead_99, rk_137, rc_137, rg_137_20, ra_150, rs_150, i1, i2, List.map_nil, List.map_cons, List.sum_cons, List.sum_nil, gcat_i, gcat_r, gcat_l, Nat.reduceAdd, Nat.reduceLeDiff, Nat.zero_le, Option.toList, List.cons_append, List.nil_append, gnk_i, gnk_r, gnk_n, gi_1, Nat.reduceLT, if_true, if_false]; exact g)
  · have hje : hj (xt n b a) = 1 := by unfold hj; rw [if_neg c98, if_neg c115, if_neg c119]
    have g := gen 1 3 14 4 (by decide) hje rfl rfl rfl 99 (fun v s' => by by_cases hv : vp_nar .boolean v = v <;> simp only [hv, if_true, if_false, E_X12_takesHead_0, E_X12_takesHead_1, E_X12_takesHead_4, E_X12_takesHead_40, E_X12_takesHead_41, E_X12_takesHead_44, E_X12_takesHead_45, E_X12_takesHead_46, E_X12_takesHead_47, E_X12_takesHead_48, E_X12_takesHead_49, E_X12_takesHead_51, E_X12_takesHead_54, E_X12_takesHead_55, E_X12_takesHead_56, E_X12_takesHead_59, E_X12_takesHead_60, E_X12_takesHead_61, E_X12_takesHead_62, E_X12_takesHead_63, E_X12_takesHead_65, E_X12_takesHead_66, E_X12_takesHead_69, E_X12_takesHead_70, E_X12_takesHead_71, E_X12_takesHead_74, E_X12_takesHead_75, E_X12_takesHead_76, E_X12_takesHead_77, E_X12_takesHead_78, E_X12_takesHead_80, E_X12_takesHead_81, E_X12_takesHead_84, E_X12_takesHead_85, E_X12_takesHead_86, E_X12_takesHead_89, E_X12_takesHead_90, E_X12_takesHead_91, E_X12_takesHead_92, E_X12_takesHead_93, E_X12_takesHead_95, E_X12_takesHead_96, E_X12_takesHead_99])
    simp only [E_X12_takesHead_0, E_X12_takesHead_1, E_X12_takesHead_4, E_X12_takesHead_40, E_X12_takesHead_41, E_X12_takesHead_44, E_X12_takesHead_45, E_X12_takesHead_46, E_X12_takesHead_47, E_X12_takesHead_48, E_X12_takesHead_49, E_X12_takesHead_51, E_X12_takesHead_54, E_X12_takesHead_55, E_X12_takesHead_56, E_X12_takesHead_59, E_X12_takesHead_60, E_X12_takesHead_61, E_X12_takesHead_62, E_X12_takesHead_63, E_X12_takesHead_65, E_X12_takesHead_66, E_X12_takesHead_69, E_X12_takesHead_70, E_X12_takesHead_71, E_X12_takesHead_74, E_X12_takesHead_75, E_X12_takesHead_76, E_X12_takesHead_77, E_X12_takesHead_78, E_X12_takesHead_80, E_X12_takesHead_81, E_X12_takesHead_84, E_X12_takesHead_85, E_X12_takesHead_86, E_X12_takesHead_89, E_X12_takesHead_90, E_X12_takesHead_91, E_X12_takesHead_92, E_X12_takesHead_93, E_X12_takesHead_95, E_X12_takesHead_96, d_next hB hC.1 hC.2.1, e98, e115, e119, c98, c115, c119, rk_137, rc_137, rg_137_20, ra_150, rs_150, i1, i2, List.map_nil, List.map_cons, List.sum_cons, List.sum_nil, gcat_i, gcat_r, gcat_l, Nat.reduceAdd, Nat.reduceLeDiff, Nat.zero_le, Option.toList, List.cons_append, List.nil_append, gnk_i, gnk_r, gnk_n, gi_1, Nat.reduceLT, if_true, if_false]
    exact g
end
