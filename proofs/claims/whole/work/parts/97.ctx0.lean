/-! FIRM. A text's signs: xt n b a is the one at a, 0 behind the end; xn the same as it is read (-1 behind the end) -/
def xt (n : Nat) (b : Nat → Nat) (a : Nat) : Nat := if a < n then b a else 0
def xn (n : Nat) (b : Nat → Nat) (a : Nat) : Int32 := if a < n then nI (b a) else -1
theorem xm_ne : ∀ c, c < 128 → ¬ (-1 : Int32) = nI c := by decide +kernel
theorem xm_lt : ∀ c, c < 128 → (-1 : Int32) < nI c := by decide +kernel
theorem xm_nl : ∀ c, c < 128 → ¬ nI c < (-1 : Int32) := by decide +kernel
theorem nI_sub {x y : Nat} (h : y ≤ x) : nI x - nI y = nI (x - y) := by
  have e : nI x = nI (x - y) + nI y := by rw [nI_add, Nat.sub_add_cancel h]
  rw [e, Int32.add_sub_cancel]
theorem nI_mul (x y : Nat) : nI x * nI y = nI (x * y) := (Int32.ofNat_mul x y).symm
def xb (n : Nat) (b : Nat → Nat) : Prop := ∀ i, i < n → b i < 128
section
variable {n a c : Nat} {b : Nat → Nat}
theorem xt_lt (h : 0 < xt n b a) : a < n := by
  unfold xt at h
  split at h
  · assumption
  · omega
theorem xt_z (h : n ≤ a) : xt n b a = 0 := if_neg (by omega)
theorem xt_128 (hb : xb n b) : xt n b a < 128 := by
  unfold xt
  split
  · exact hb a (by assumption)
  · decide
theorem xn_of (h : 0 < xt n b a) : xn n b a = nI (xt n b a) := by
  have h1 := xt_lt h
  unfold xn xt
  rw [if_pos h1, if_pos h1]
theorem xn_eq (hb : xb n b) (h0 : 0 < c) (h : c < 128) : (xn n b a = nI c) = (xt n b a = c) := by
  unfold xn xt
  by_cases h1 : a < n
  · have := hb a h1
    rw [if_pos h1, if_pos h1]
    exact propext (nI_eq (by omega) (by omega))
  · rw [if_neg h1, if_neg h1]
    exact propext ⟨fun e => absurd e (xm_ne c h), fun e => by omega⟩
theorem xn_lt (hb : xb n b) (h0 : 0 < c) (h : c < 128) : (xn n b a < nI c) = (xt n b a < c) := by
  unfold xn xt
  by_cases h1 : a < n
  · have := hb a h1
    rw [if_pos h1, if_pos h1]
    exact propext (nI_ltI (by omega) (by omega))
  · rw [if_neg h1, if_neg h1]
    exact propext ⟨fun _ => h0, fun _ => xm_lt c h⟩
theorem xn_gt (hb : xb n b) (h : c < 128) : (nI c < xn n b a) = (c < xt n b a) := by
  unfold xn xt
  by_cases h1 : a < n
  · have := hb a h1
    rw [if_pos h1, if_pos h1]
    exact propext (nI_ltI (by omega) (by omega))
  · rw [if_neg h1, if_neg h1]
    exact propext ⟨fun e => absurd e (xm_nl c h), fun e => by omega⟩
end
/-- a number at a: behind it, what it is -/
def pN (t : Nat → Nat) (a : Nat) : Option (Nat × Nat) := if 48 ≤ t a ∧ t a ≤ 57 then (if 48 ≤ t (a + 1) ∧ t (a + 1) ≤ 57 then some (a + 2, (t a - 48) * 10 + (t (a + 1) - 48)) else some (a + 1, t a - 48)) else none
def pW (t : Nat → Nat) : List Nat → Nat → Bool × Nat
  | [], a => (true, a)
  | c :: r, a => if t a = c then pW t r (a + 1) else (false, a)
/-- which letter, which of < = > -/
def xl (x : Nat) : Nat := if x = 112 then 0 else if x = 107 then 1 else if x = 118 then 2 else if x = 120 then 3 else if x = 103 then 4 else if x = 104 then 5 else 6
def xh (x : Nat) : Nat := if x = 60 then 0 else if x = 61 then 1 else if x = 62 then 2 else 3
/-! the class's firm -/
theorem Fp_0 {s : gm_S} {f : Nat} {x : Int32} (h : gF_is f) : gm_ps (gm_m s) f 0 (.int x) = gm_m (gm_si s f 0 x) := by
  rcases h with rfl | rfl | rfl | rfl | rfl | rfl | rfl <;> exact gm_m_psi (ci := 1) (by decide) rfl rfl
theorem Fp_1 {s : gm_S} {f : Nat} {x : Int32} (h : gF_is f) : gm_ps (gm_m s) f 1 (.int x) = gm_m (gm_si s f 1 x) := by
  rcases h with rfl | rfl | rfl | rfl | rfl | rfl | rfl <;> exact gm_m_psi (ci := 1) (by decide) rfl rfl
theorem Fp_5 {s : gm_S} {f : Nat} {x : Int32} (h : gF_is f) : gm_ps (gm_m s) f 5 (.int x) = gm_m (gm_si s f 5 x) := by
  rcases h with rfl | rfl | rfl | rfl | rfl | rfl | rfl <;> exact gm_m_psi (ci := 1) (by decide) rfl rfl
theorem Fp_7 {s : gm_S} {f : Nat} {x : Int32} (h : gF_is f) : gm_ps (gm_m s) f 7 (.int x) = gm_m (gm_si s f 7 x) := by
  rcases h with rfl | rfl | rfl | rfl | rfl | rfl | rfl <;> exact gm_m_psi (ci := 1) (by decide) rfl rfl
theorem Fp_8 {s : gm_S} {f : Nat} {x : Int32} (h : gF_is f) : gm_ps (gm_m s) f 8 (.int x) = gm_m (gm_si s f 8 x) := by
  rcases h with rfl | rfl | rfl | rfl | rfl | rfl | rfl <;> exact gm_m_psi (ci := 1) (by decide) rfl rfl
theorem Fp_9 {s : gm_S} {f : Nat} {x : Int32} (h : gF_is f) : gm_ps (gm_m s) f 9 (.int x) = gm_m (gm_si s f 9 x) := by
  rcases h with rfl | rfl | rfl | rfl | rfl | rfl | rfl <;> exact gm_m_psi (ci := 1) (by decide) rfl rfl
theorem Fp_6 {s : gm_S} {f r : Nat} (h : gF_is f) : gm_ps (gm_m s) f 6 (.ref r) = gm_m (gm_sr s f 6 (some r)) := by
  rcases h with rfl | rfl | rfl | rfl | rfl | rfl | rfl <;> exact gm_m_psr (ci := 1) (by decide) rfl rfl
def cB (f n : Nat) (b : Nat → Nat) (s : gm_S) : Prop := gF_is f ∧ n ≤ 100 ∧ s.2.1 f 6 = some 25 ∧ s.1 f 7 = nI n ∧ xb n b ∧ ∀ i, i < n → s.1 25 i = nI (b i)
def cK (f : Nat) (s : gm_S) (ts : List fT) : Prop := s.1 f 5 = nI ts.length ∧ ∀ i k, ts[i]? = some k → s.1 (f + 1) i = nI k.1 ∧ s.1 (f + 2) i = nI k.2.1 ∧ s.1 (f + 3) i = nI k.2.2
def cA (f n : Nat) (s : gm_S) (a : Nat) (ts : List fT) : Prop := s.1 f 8 = nI a ∧ a ≤ n ∧ ts.length ≤ a ∧ cK f s ts
/-- all is kept but the firm's steps, place, number -/
def cF (f : Nat) (s s' : gm_S) : Prop := s'.2 = s.2 ∧ ∀ c j, ¬ (c = f ∧ (j = 5 ∨ j = 8 ∨ j = 9)) → c ≠ f + 1 → c ≠ f + 2 → c ≠ f + 3 → s'.1 c j = s.1 c j
theorem cF_refl {f : Nat} {s : gm_S} : cF f s s := ⟨rfl, fun _ _ _ _ _ _ => rfl⟩
theorem cF_trans {f : Nat} {s s' s2 : gm_S} (h : cF f s s') (h2 : cF f s' s2) : cF f s s2 := ⟨h2.1.trans h.1, fun c j q1 q2 q3 q4 => (h2.2 c j q1 q2 q3 q4).trans (h.2 c j q1 q2 q3 q4)⟩
theorem cF_si {f k : Nat} {s : gm_S} {x : Int32} (hk : k = 5 ∨ k = 8 ∨ k = 9) : cF f s (gm_si s f k x) := by
  refine ⟨rfl, fun c j q1 _ _ _ => ?_⟩
  rw [gsi_1, if_neg (fun e => q1 ⟨e.1, by omega⟩)]
theorem cB_F {f n : Nat} {b : Nat → Nat} {s s' : gm_S} (h : cB f n b s) (e : cF f s s') : cB f n b s' := by
  obtain ⟨h1, h2, h3, h4, h5, h6⟩ := h
  have hf : 28 ≤ f := by unfold gF_is at h1; omega
  exact ⟨h1, h2, by rw [e.1]; exact h3, (e.2 _ _ (by omega) (by omega) (by omega) (by omega)).trans h4, h5, fun i hi => (e.2 _ _ (by omega) (by omega) (by omega) (by omega)).trans (h6 i hi)⟩
theorem cK_si {f k : Nat} {s : gm_S} {ts : List fT} {x : Int32} (h : cK f s ts) (hk : k ≠ 5) : cK f (gm_si s f k x) ts := by
  refine ⟨?_, fun i q hq => ?_⟩
  · rw [gsi_1, if_neg (fun e => by omega)]
    exact h.1
  · rw [gsi_1, if_neg (fun e => by omega), gsi_1, if_neg (fun e => by omega), gsi_1, if_neg (fun e => by omega)]
    exact h.2 i q hq
theorem cA_8 {f n a a' : Nat} {s : gm_S} {ts : List fT} (h : cA f n s a ts) (hn : a' ≤ n) (ha : a ≤ a') : cA f n (gm_si s f 8 (nI a')) a' ts := by
  obtain ⟨h1, h2, h3, h4⟩ := h
  refine ⟨?_, hn, by omega, cK_si h4 (by decide)⟩
  rw [gsi_1, if_pos ⟨rfl, rfl⟩]
theorem cA_9 {f n a : Nat} {s : gm_S} {ts : List fT} {x : Int32} (h : cA f n s a ts) : cA f n (gm_si s f 9 x) a ts := by
  obtain ⟨h1, h2, h3, h4⟩ := h
  refine ⟨?_, h2, h3, cK_si h4 (by decide)⟩
  rw [gsi_1, if_neg (fun e => by omega)]
  exact h1
section
variable {w : Nat × (Nat → Int32)} {d f n a c : Nat} {b : Nat → Nat} {s : gm_S} {ts : List fT} {Q : Option Value → gc_M → Prop}
theorem c_next (h : cB f n b s) (ha : s.1 f 8 = nI a) (hn : a ≤ n) : gc_X w d 21 0 [some (.ref f)] [] (gm_m s) Q = Q (some (.int (xn n b a))) (gm_m s) := by
  obtain ⟨hf, h100, h6, h7, hb, hv⟩ := h
  have hp : ¬ nI a < 0 := nI_pos (by omega)
  by_cases h1 : a < n
  · have hge : ¬ nI n ≤ nI a := nI_ge h1 (by omega)
    have i1 : vp_in (nI a) 100 := vp_in_nI (by omega) (by omega)
    have i2 : (nI a).toNatClampNeg = a := nI_clamp (by omega)
    have hv := hv a h1
    simp only [E_X1_next_0, E_X1_next_1, E_X1_next_4n, E_X1_next_4r, E_X1_next_7, E_X1_next_8, E_X1_next_11, E_X1_next_14, E_X1_next_15, E_X1_next_18, E_X1_next_19, E_X1_next_22, E_X1_next_25, E_X1_next_26, E_X1_next_29, E_X1_next_30, E_X1_next_33, E_X1_next_34, E_X1_next_37, E_X1_next_38, gF_gok hf, Fg_6 hf, Fg_7 hf, Fg_8 hf, h6, va_rf_some, h7, ha, hp, hge, ra_25, rv_25, i1, i2, hv, xn, h1, gnk_i, gnk_r, gnk_n, gi_1, Nat.reduceLT, if_true, if_false]
  · have hle : nI n ≤ nI a := nI_le (by omega) (by omega)
    simp only [E_X1_next_0, E_X1_next_1, E_X1_next_4n, E_X1_next_4r, E_X1_next_7, E_X1_next_8, E_X1_next_11, E_X1_next_14, E_X1_next_15, E_X1_next_18, E_X1_next_19, E_X1_next_22, E_X1_next_25, E_X1_next_26, E_X1_next_29, E_X1_next_30, E_X1_next_33, E_X1_next_34, E_X1_next_37, E_X1_next_38, gF_gok hf, Fg_6 hf, Fg_7 hf, Fg_8 hf, h6, va_rf_some, h7, ha, hp, hle, xn, h1, gnk_i, gnk_r, gnk_n, gi_1, Nat.reduceLT, if_true, if_false]
theorem c_sign (h : cB f n b s) (ha : s.1 f 8 = nI a) (hn : a ≤ n) (h0 : 0 < c) (hc : c < 128) : gc_X w (d + 1) 20 0 [some (.ref f), some (.int (nI c))] [] (gm_m s) Q = if xt n b a = c then Q (some (.int 1)) (gm_m (gm_si s f 8 (nI (a + 1)))) else Q (some (.int 0)) (gm_m s) := by
  have hf := h.1
  have e := xn_eq (a := a) h.2.2.2.2.1 h0 hc
  by_cases h1 : xt n b a = c
  · rw [if_pos h1]
    simp only [E_X1_sign_0, E_X1_sign_1, E_X1_sign_4, E_X1_sign_5, E_X1_sign_8, E_X1_sign_9, E_X1_sign_10, E_X1_sign_11, E_X1_sign_12, E_X1_sign_15, E_X1_sign_16, E_X1_sign_17, E_X1_sign_20, E_X1_sign_21, c_next h ha hn, gF_cl hf, gF_gok hf, Fg_8 hf, Fp_8 hf, e, h1, ha, nI_1, gb_n0, gb_n1, List.map_nil, List.map_cons, List.sum_cons, List.sum_nil, gcat_i, gcat_r, gcat_l, Nat.reduceAdd, Nat.reduceLeDiff, Nat.zero_le, Option.toList, List.cons_append, List.nil_append, gnk_i, gnk_r, gnk_n, gi_1, Nat.reduceLT, if_true, if_false]
  · rw [if_neg h1]
    simp only [E_X1_sign_0, E_X1_sign_1, E_X1_sign_4, E_X1_sign_5, E_X1_sign_8, E_X1_sign_9, E_X1_sign_10, E_X1_sign_11, E_X1_sign_12, E_X1_sign_15, E_X1_sign_16, E_X1_sign_17, E_X1_sign_20, E_X1_sign_21, c_next h ha hn, gF_cl hf, gF_gok hf, e, h1, gb_n0, gb_n1, List.map_nil, List.map_cons, List.sum_cons, List.sum_nil, gcat_i, gcat_r, gcat_l, Nat.reduceAdd, Nat.reduceLeDiff, Nat.zero_le, Option.toList, List.cons_append, List.nil_append, gnk_i, gnk_r, gnk_n, gi_1, Nat.reduceLT, if_true, if_false]
theorem c_digY (hb : xb n b) {M : gc_M} (h : 48 ≤ xt n b a ∧ xt n b a ≤ 57) : gc_X w d 18 0 [some (.int (xn n b a))] [] M Q = Q (some (.int 1)) M := by
  have e1 : (xn n b a < 48) = (xt n b a < 48) := xn_lt (c := 48) hb (by decide) (by decide)
  have e2 : (57 < xn n b a) = (57 < xt n b a) := xn_gt (c := 57) hb (by decide)
  have h1 : ¬ xt n b a < 48 := by omega
  have h2 : ¬ 57 < xt n b a := by omega
  simp only [E_X1_isDigit_0, E_X1_isDigit_1, E_X1_isDigit_3, E_X1_isDigit_6, E_X1_isDigit_7, E_X1_isDigit_9, E_X1_isDigit_12, E_X1_isDigit_13, E_X1_isDigit_16, E_X1_isDigit_17, e1, e2, h1, h2, gb_n1, gnk_i, gnk_r, gnk_n, gi_1, Nat.reduceLT, if_true, if_false]
theorem c_digN (hb : xb n b) {M : gc_M} (h : ¬ (48 ≤ xt n b a ∧ xt n b a ≤ 57)) : gc_X w d 18 0 [some (.int (xn n b a))] [] M Q = Q (some (.int 0)) M := by
  have e1 : (xn n b a < 48) = (xt n b a < 48) := xn_lt (c := 48) hb (by decide) (by decide)
  have e2 : (57 < xn n b a) = (57 < xt n b a) := xn_gt (c := 57) hb (by decide)
  by_cases h1 : xt n b a < 48
  · simp only [E_X1_isDigit_0, E_X1_isDigit_1, E_X1_isDigit_3, E_X1_isDigit_6, E_X1_isDigit_7, E_X1_isDigit_9, E_X1_isDigit_12, E_X1_isDigit_13, E_X1_isDigit_16, E_X1_isDigit_17, e1, h1, gb_n0, gnk_i, gnk_r, gnk_n, gi_1, Nat.reduceLT, if_true, if_false]
  · have h2 : 57 < xt n b a := by omega
    simp only [E_X1_isDigit_0, E_X1_isDigit_1, E_X1_isDigit_3, E_X1_isDigit_6, E_X1_isDigit_7, E_X1_isDigit_9, E_X1_isDigit_12, E_X1_isDigit_13, E_X1_isDigit_16, E_X1_isDigit_17, e1, e2, h1, h2, gb_n0, gnk_i, gnk_r, gnk_n, gi_1, Nat.reduceLT, if_true, if_false]
theorem c_num_no (h : cB f n b s) (ha : s.1 f 8 = nI a) (hn : a ≤ n) (hp : pN (xt n b) a = none) : gc_X w (d + 1) 17 0 [some (.ref f)] [] (gm_m s) Q = Q (some (.int 0)) (gm_m s) := by
  have hf := h.1
  have h1 : ¬ (48 ≤ xt n b a ∧ xt n b a ≤ 57) := by
    intro e
    unfold pN at hp
    rw [if_pos e] at hp
    split at hp <;> cases hp
  have e := fun (M : gc_M) (Q : Option Value → gc_M → Prop) => c_digN (w := w) (d := d) (Q := Q) (M := M) h.2.2.2.2.1 h1
  simp only [E_X1_readNumber_0, E_X1_readNumber_1, E_X1_readNumber_4, E_X1_readNumber_7, E_X1_readNumber_10, E_X1_readNumber_11, E_X1_readNumber_12, E_X1_readNumber_13, E_X1_readNumber_14, E_X1_readNumber_17, E_X1_readNumber_19, E_X1_readNumber_20, E_X1_readNumber_23, E_X1_readNumber_24, E_X1_readNumber_25, E_X1_readNumber_28, E_X1_readNumber_29, E_X1_readNumber_30, E_X1_readNumber_33, E_X1_readNumber_34, E_X1_readNumber_37, E_X1_readNumber_40, E_X1_readNumber_43, E_X1_readNumber_44, E_X1_readNumber_45, E_X1_readNumber_48, E_X1_readNumber_50, E_X1_readNumber_51, E_X1_readNumber_52, E_X1_readNumber_55, E_X1_readNumber_56, E_X1_readNumber_58, E_X1_readNumber_59, E_X1_readNumber_62, E_X1_readNumber_63, E_X1_readNumber_64, E_X1_readNumber_67, E_X1_readNumber_68, E_X1_readNumber_69, E_X1_readNumber_72, E_X1_readNumber_73, c_next h ha hn, gF_cl hf, e, gb_n0, List.map_nil, List.map_cons, List.sum_cons, List.sum_nil, gcat_i, gcat_r, gcat_l, Nat.reduceAdd, Nat.reduceLeDiff, Nat.zero_le, Option.toList, List.cons_append, List.nil_append, gnk_i, gnk_r, gnk_n, gi_1, Nat.reduceLT, if_true, if_false]
theorem pN_lt {a' v : Nat} (hp : pN (xt n b) a = some (a', v)) : a < a' ∧ a' ≤ n ∧ v < 100 := by
  unfold pN at hp
  split at hp
  · rename_i h1
    have := xt_lt (n := n) (b := b) (a := a) (by omega)
    split at hp
    · rename_i h2
      have := xt_lt (n := n) (b := b) (a := a + 1) (by omega)
      cases hp
      omega
    · cases hp
      omega
  · cases hp
theorem c_num_ok {a' v : Nat} (h : cB f n b s) (hA : cA f n s a ts) (hp : pN (xt n b) a = some (a', v)) (hQ : ∀ s', cF f s s' → cA f n s' a' ts → s'.1 f 9 = nI v → Q (some (.int 1)) (gm_m s')) : gc_X w (d + 1) 17 0 [some (.ref f)] [] (gm_m s) Q := by
  have hf := h.1
  have hb := h.2.2.2.2.1
  have ha := hA.1
  have hn := hA.2.1
  have hlt := pN_lt hp
  unfold pN at hp
  split at hp
  · rename_i h1
    have x1 : xn n b a = nI (xt n b a) := xn_of (by omega)
    have y1 : nI (xt n b a) - 48 = nI (xt n b a - 48) := nI_sub (y := 48) h1.1
    have e1 := fun (M : gc_M) (Q : Option Value → gc_M → Prop) => c_digY (w := w) (d := d) (Q := Q) (M := M) hb h1
    rw [x1] at e1
    have hF1 : cF f s (gm_si (gm_si s f 9 (nI (xt n b a - 48))) f 8 (nI (a + 1))) := cF_trans (cF_si (by decide)) (cF_si (by decide))
    have hB1 := cB_F h hF1
    have hA1 : cA f n (gm_si (gm_si s f 9 (nI (xt n b a - 48))) f 8 (nI (a + 1))) (a + 1) ts := cA_8 (cA_9 hA) (by split at hp <;> (cases hp; omega)) (by omega)
    have h91 : (gm_si (gm_si s f 9 (nI (xt n b a - 48))) f 8 (nI (a + 1))).1 f 9 = nI (xt n b a - 48) := by
      rw [gsi_1, if_neg (fun e => by omega), gsi_1, if_pos ⟨rfl, rfl⟩]
    have h81 : (gm_si s f 9 (nI (xt n b a - 48))).1 f 8 = nI a := by
      rw [gsi_1, if_neg (fun e => by omega)]
      exact ha
    have hB0 : cB f n b (gm_si s f 9 (nI (xt n b a - 48))) := cB_F h (cF_si (by decide))
    split at hp
    · rename_i h2
      have x2 : xn n b (a + 1) = nI (xt n b (a + 1)) := xn_of (by omega)
      have e2 := fun (M : gc_M) (Q : Option Value → gc_M → Prop) => c_digY (w := w) (d := d) (Q := Q) (M := M) hb h2
      rw [x2] at e2
      have y2 : nI (xt n b a - 48) * 10 + nI (xt n b (a + 1)) - 48 = nI ((xt n b a - 48) * 10 + (xt n b (a + 1) - 48)) := by
        have m : nI (xt n b a - 48) * 10 = nI ((xt n b a - 48) * 10) := nI_mul _ 10
        have q : nI ((xt n b a - 48) * 10 + xt n b (a + 1)) - 48 = nI ((xt n b a - 48) * 10 + xt n b (a + 1) - 48) := nI_sub (y := 48) (by omega)
        rw [m, nI_add, q]
        congr 1
        omega
      have h82 : (gm_si (gm_si (gm_si s f 9 (nI (xt n b a - 48))) f 8 (nI (a + 1))) f 9 (nI ((xt n b a - 48) * 10 + (xt n b (a + 1) - 48)))).1 f 8 = nI (a + 1) := by
        rw [gsi_1, if_neg (fun e => by omega)]
        exact hA1.1
      simp only [E_X1_readNumber_0, E_X1_readNumber_1, E_X1_readNumber_4, E_X1_readNumber_7, E_X1_readNumber_10, E_X1_readNumber_11, E_X1_readNumber_12, E_X1_readNumber_13, E_X1_readNumber_14, E_X1_readNumber_17, E_X1_readNumber_19, E_X1_readNumber_20, E_X1_readNumber_23, E_X1_readNumber_24, E_X1_readNumber_25, E_X1_readNumber_28, E_X1_readNumber_29, E_X1_readNumber_30, E_X1_readNumber_33, E_X1_readNumber_34, E_X1_readNumber_37, E_X1_readNumber_40, E_X1_readNumber_43, E_X1_readNumber_44, E_X1_readNumber_45, E_X1_readNumber_48, E_X1_readNumber_50, E_X1_readNumber_51, E_X1_readNumber_52, E_X1_readNumber_55, E_X1_readNumber_56, E_X1_readNumber_58, E_X1_readNumber_59, E_X1_readNumber_62, E_X1_readNumber_63, E_X1_readNumber_64, E_X1_readNumber_67, E_X1_readNumber_68, E_X1_readNumber_69, E_X1_readNumber_72, E_X1_readNumber_73, c_next h ha hn, c_next hB1 hA1.1 hA1.2.1, gF_cl hf, gF_gok hf, e1, e2, x1, x2, Fg_8 hf, Fg_9 hf, Fp_8 hf, Fp_9 hf, y1, ha, h81, h91, nI_1, y2, h82, gb_n1, g1_0, List.map_nil, List.map_cons, List.sum_cons, List.sum_nil, gcat_i, gcat_r, gcat_l, Nat.reduceAdd, Nat.reduceLeDiff, Nat.zero_le, Option.toList, List.cons_append, List.nil_append, gnk_i, gnk_r, gnk_n, gi_1, Nat.reduceLT, if_true, if_false]
      cases hp
      refine hQ _ (cF_trans hF1 (cF_trans (cF_si (by decide)) (cF_si (by decide)))) (cA_8 (cA_9 hA1) (by omega) (by omega)) ?_
      rw [gsi_1, if_neg (fun e => by omega), gsi_1, if_pos ⟨rfl, rfl⟩]
    · rename_i h2
      have e2 := fun (M : gc_M) (Q : Option Value → gc_M → Prop) => c_digN (w := w) (d := d) (Q := Q) (M := M) hb h2
      simp only [E_X1_readNumber_0, E_X1_readNumber_1, E_X1_readNumber_4, E_X1_readNumber_7, E_X1_readNumber_10, E_X1_readNumber_11, E_X1_readNumber_12, E_X1_readNumber_13, E_X1_readNumber_14, E_X1_readNumber_17, E_X1_readNumber_19, E_X1_readNumber_20, E_X1_readNumber_23, E_X1_readNumber_24, E_X1_readNumber_25, E_X1_readNumber_28, E_X1_readNumber_29, E_X1_readNumber_30, E_X1_readNumber_33, E_X1_readNumber_34, E_X1_readNumber_37, E_X1_readNumber_40, E_X1_readNumber_43, E_X1_readNumber_44, E_X1_readNumber_45, E_X1_readNumber_48, E_X1_readNumber_50, E_X1_readNumber_51, E_X1_readNumber_52, E_X1_readNumber_55, E_X1_readNumber_56, E_X1_readNumber_58, E_X1_readNumber_59, E_X1_readNumber_62, E_X1_readNumber_63, E_X1_readNumber_64, E_X1_readNumber_67, E_X1_readNumber_68, E_X1_readNumber_69, E_X1_readNumber_72, E_X1_readNumber_73, c_next h ha hn, c_next hB1 hA1.1 hA1.2.1, gF_cl hf, gF_gok hf, e1, e2, x1, Fg_8 hf, Fg_9 hf, Fp_8 hf, Fp_9 hf, y1, ha, h81, h91, nI_1, gb_n1, g1_0, List.map_nil, List.map_cons, List.sum_cons, List.sum_nil, gcat_i, gcat_r, gcat_l, Nat.reduceAdd, Nat.reduceLeDiff, Nat.zero_le, Option.toList, List.cons_append, List.nil_append, gnk_i, gnk_r, gnk_n, gi_1, Nat.reduceLT, if_true, if_false]
      cases hp
      exact hQ _ hF1 hA1 h91
  · cases hp
/-- Firm.addStep -/
theorem c_add (hf : gF_is f) (hk : cK f s ts) (hl : ts.length < 100) {x1 x2 x3 : Int32} (k : fT) (y1 : x1 = nI k.1) (y2 : x2 = nI k.2.1) (y3 : x3 = nI k.2.2) (hQ : ∀ s', cF f s s' → s'.1 f 8 = s.1 f 8 → cK f s' (ts ++ [k]) → Q none (gm_m s')) : gc_X w d 22 0 [some (.ref f), some (.int x1), some (.int x2), some (.int x3)] [] (gm_m s) Q := by
  have h5 := hk.1
  have i1 : vp_in (nI ts.length) 100 := vp_in_nI hl (by omega)
  have i2 : (nI ts.length).toNatClampNeg = ts.length := nI_clamp (by omega)
  have i3 : nI ts.length < 100 := nI_lt (b := 100) hl (by decide)
  have q1 : (f = f + 1) = False := eq_false (by omega)
  have q2 : (f = f + 2) = False := eq_false (by omega)
  have q3 : (f = f + 3) = False := eq_false (by omega)
  simp only [E_X1_addStep_0, E_X1_addStep_1, E_X1_addStep_4, E_X1_addStep_6, E_X1_addStep_9, E_X1_addStep_10, E_X1_addStep_11, E_X1_addStep_14, E_X1_addStep_15, E_X1_addStep_18, E_X1_addStep_19, E_X1_addStep_20, E_X1_addStep_21, E_X1_addStep_24, E_X1_addStep_25, E_X1_addStep_28, E_X1_addStep_29, E_X1_addStep_30, E_X1_addStep_31, E_X1_addStep_34, E_X1_addStep_35, E_X1_addStep_38, E_X1_addStep_39, E_X1_addStep_40, E_X1_addStep_41, E_X1_addStep_42, E_X1_addStep_45, E_X1_addStep_46, E_X1_addStep_47, E_X1_addStep_50, gF_gok hf, Fg_2 hf, Fg_3 hf, Fg_4 hf, Fg_5 hf, Fp_5 hf, Fa_1 hf, Fa_2 hf, Fa_3 hf, Fs_1 hf, Fs_2 hf, Fs_3 hf, gsi_1, q1, q2, q3, false_and, h5, i1, i2, i3, nI_1, gnk_i, gnk_r, gnk_n, gi_1, Nat.reduceLT, if_true, if_false]
  refine hQ _ ⟨rfl, fun c j q1 q2 q3 q4 => ?_⟩ ?_ ⟨?_, fun i q hq => ?_⟩
  · rw [gsi_1, if_neg (fun e => q1 ⟨e.1, by omega⟩), gsi_1, if_neg (fun e => by omega), gsi_1, if_neg (fun e => by omega), gsi_1, if_neg (fun e => by omega)]
  · rw [gsi_1, if_neg (fun e => by omega), gsi_1, if_neg (fun e => by omega), gsi_1, if_neg (fun e => by omega), gsi_1, if_neg (fun e => by omega)]
  · rw [gsi_1, if_pos ⟨rfl, rfl⟩, List.length_append]
    rfl
  · rcases get_app hq with ⟨hi, hq⟩ | ⟨hi, hq⟩
    · obtain ⟨z1, z2, z3⟩ := hk.2 i q hq
      refine ⟨?_, ?_, ?_⟩
      · rw [gsi_1, if_neg (fun e => by omega), gsi_1, if_neg (fun e => by omega), gsi_1, if_neg (fun e => by omega), gsi_1, if_neg (fun e => by omega)]
        exact z1
      · rw [gsi_1, if_neg (fun e => by omega), gsi_1, if_neg (fun e => by omega), gsi_1, if_neg (fun e => by omega), gsi_1, if_neg (fun e => by omega)]
        exact z2
      · rw [gsi_1, if_neg (fun e => by omega), gsi_1, if_neg (fun e => by omega), gsi_1, if_neg (fun e => by omega), gsi_1, if_neg (fun e => by omega)]
        exact z3
    · subst hq
      subst hi
      refine ⟨?_, ?_, ?_⟩
      · rw [gsi_1, if_neg (fun e => by omega), gsi_1, if_neg (fun e => by omega), gsi_1, if_neg (fun e => by omega), gsi_1, if_pos ⟨rfl, rfl⟩]
        exact y1
      · rw [gsi_1, if_neg (fun e => by omega), gsi_1, if_neg (fun e => by omega), gsi_1, if_pos ⟨rfl, rfl⟩]
        exact y2
      · rw [gsi_1, if_neg (fun e => by omega), gsi_1, if_pos ⟨rfl, rfl⟩]
        exact y3
end
