/-! the reference: down, sent -/
/-- the hours until a thing is laid, of n -/
def gA_dn : Nat → gA → Nat → Nat
  | 0, _, _ => 0
  | n + 1, p, t => if p.2.1 14 t = 2 then 0 else gA_dn n (gA_hour p) t + 1
theorem gA_dn_le : ∀ {n : Nat} {p : gA} {t : Nat}, gA_dn n p t ≤ n
  | 0, _, _ => Nat.le_refl _
  | n + 1, p, t => by
    unfold gA_dn
    split
    · omega
    · have := gA_dn_le (n := n) (p := gA_hour p) (t := t)
      omega
theorem gA_hour_n {p : gA} : (gA_hour p).1 = (p.1.1 + 1, p.1.2) := rfl
/-- DOWN -/
def a_dw (p : gA) (t : Nat) : Int32 := if gA_dn 61 p t < 61 then nI (gA_dn 61 p t) else -5
/-- SENT -/
def gA_bc (p : gA) (t : Nat) : Nat → Nat → Int32 → Nat → Int32
  | 0, _, f, _ => f
  | n + 1, c, f, low => if gA_dn 61 (gA_set p 13 t (nI c)) t < low then gA_bc p t n (c + 1) (nI c) (gA_dn 61 (gA_set p 13 t (nI c)) t) else gA_bc p t n (c + 1) f low
def a_sent (p : gA) (t : Nat) : Int32 := if p.2.1 14 t = 0 then gA_bc p t p.1.2.1 0 (-5) 61 else -5
theorem mS_c {c : Nat} (h : c < 8) : mS (nI c) = nI c := (mS_nI h).mpr rfl
section
variable {w : Nat × (Nat → Int32)} {d t : Nat} {s : gm_S} {p : gA} {Q : Option Value → gc_M → Prop} {cs : List fC} {o : Option Nat} {x : Int32}
theorem m_dn_loop {K : Int32} (hcs : fCs cs) {s0 : gm_S} : ∀ (n k : Nat) (s : gm_S) (p : gA), k + n = 61 → gA_ok p → gA_k2 p → p.1.1 + n < 2 ^ 30 → t < p.1.2.2 → mG s0 s → mY K s o cs p → (∀ s', mG s0 s' → gc_X w (d + 6) 159 43 [some (.ref 137), some (.int (nI t)), some (.int x), some (.int (nI (k + gA_dn n p t)))] [] (gm_m s') Q) → gc_X w (d + 6) 159 17 [some (.ref 137), some (.int (nI t)), some (.int x), some (.int (nI k))] [] (gm_m s) Q := by
  intro n
  induction n with
  | zero =>
    intro k s p hk6 hk hk2 hh ht hG hY hq
    have e : k = 61 := by omega
    subst e
    rw [E_X12_downBy_17]
    simp (decide := true) only [E_X12_downBy_18, E_X12_downBy_20, if_true]
    exact hq s hG
  | succ n ih =>
    intro k s p hk6 hk hk2 hh ht hG hY hq
    have k8 := hk.2.1
    have i3 : vp_in (nI t) 8 := vp_in_nI (by omega) (by omega)
    have i4 : (nI t).toNatClampNeg = t := nI_clamp (by omega)
    obtain ⟨-, -, a14, -, -⟩ := hY.1.2.2.2.2.2 t ht
    have hge : ¬ (61 : Int32) ≤ nI k := nI_ge (b := 61) (by omega) (by omega)
    rw [gA_dn] at hq
    rw [E_X12_downBy_17]
    by_cases h2 : p.2.1 14 t = 2
    · rw [if_pos h2, Nat.add_zero] at hq
      simp only [E_X12_downBy_18, E_X12_downBy_20, E_X12_downBy_23, E_X12_downBy_24, E_X12_downBy_27, E_X12_downBy_28, E_X12_downBy_29, E_X12_downBy_30, rk_137, rg_137_10, ra_145, rv_145, i3, i4, a14, hge, h2, gnk_i, gnk_r, gnk_n, gi_1, Nat.reduceLT, if_true, if_false]
      exact hq s hG
    · rw [if_neg h2] at hq
      simp only [E_X12_downBy_18, E_X12_downBy_20, E_X12_downBy_23, E_X12_downBy_24, E_X12_downBy_27, E_X12_downBy_28, E_X12_downBy_29, E_X12_downBy_30, E_X12_downBy_33, E_X12_downBy_34, rk_137, rc_137, rg_137_10, ra_145, rv_145, i3, i4, a14, hge, h2, List.map_nil, List.map_cons, List.sum_cons, List.sum_nil, gcat_i, gcat_r, gcat_l, Nat.reduceAdd, Nat.reduceLeDiff, Nat.zero_le, Option.toList, List.cons_append, List.nil_append, gnk_i, gnk_r, gnk_n, gi_1, Nat.reduceLT, if_true, if_false]
      refine m_goHour hcs hk hk2 hY (fun s' hf hY' => ?_)
      simp only [E_X12_downBy_37, E_X12_downBy_40, List.map_nil, List.map_cons, List.sum_cons, List.sum_nil, gcat_i, gcat_r, gcat_l, Nat.reduceAdd, Nat.reduceLeDiff, Nat.zero_le, Option.toList, List.cons_append, List.nil_append, gnk_i, gnk_r, gnk_n, gi_1, Nat.reduceLT, if_true, if_false]
      rw [← nI_succ]
      refine ih (k + 1) s' (gA_hour p) (by omega) (gA_hour_ok hk (by omega)) (gA_k2_hour hk2) (by rw [gA_hour_n]; show p.1.1 + 1 + n < _; omega) ht (mG_trans hG hf) hY' (fun s2 hG2 => ?_)
      have e : k + 1 + gA_dn n (gA_hour p) t = k + (gA_dn n (gA_hour p) t + 1) := by omega
      rw [e]
      exact hq s2 hG2
theorem m_dn_end {s1 : gm_S} {p1 : gA} (h : mYY s o cs p) (hA : mA s s1) (hK : mKp s s1) (hk1 : gA_ok p1) (hk2 : gA_k2 p1) (hh : p1.1.1 ≤ 9999) (ht : t < p1.1.2.2) (hY : mY 2000000000 s1 o cs p1) (hq : ∀ s', mA s s' → mYY s' o cs p → Q (some (.int (nI (gA_dn 61 p1 t)))) (gm_m s')) : gc_X w (d + 6) 159 15 [some (.ref 137), some (.int (nI t)), some (.int x), none] [] (gm_m s1) Q := by
  simp only [E_X12_downBy_15, E_X12_downBy_16, gnk_i, gnk_r, gnk_n, gi_1, Nat.reduceLT, if_true, if_false]
  rw [← nI_0]
  refine m_dn_loop h.2.2.2.1 (s0 := s1) 61 0 s1 p1 rfl hk1 hk2 (by omega) ht mG_refl hY (fun s2 hG2 => ?_)
  simp only [E_X12_downBy_43, E_X12_downBy_44, rc_137, Nat.zero_add, List.map_nil, List.map_cons, List.sum_cons, List.sum_nil, gcat_i, gcat_r, gcat_l, Nat.reduceAdd, Nat.reduceLeDiff, Nat.zero_le, Option.toList, List.cons_append, List.nil_append, gnk_i, gnk_r, gnk_n, gi_1, Nat.reduceLT, if_true, if_false]
  refine m_put h.2.1 h.1 (mA_trans hA (mA_G hG2)) (mKp_G hK hG2) (fun s3 hA3 hY3 => ?_)
  simp only [E_X12_downBy_47, E_X12_downBy_48, List.map_nil, List.map_cons, List.sum_cons, List.sum_nil, gcat_i, gcat_r, gcat_l, Nat.reduceAdd, Nat.reduceLeDiff, Nat.zero_le, Option.toList, List.cons_append, List.nil_append, gnk_i, gnk_r, gnk_n, gi_1, Nat.reduceLT, if_true, if_false]
  exact hq s3 hA3 (mYY_of h hY3)
/-- as it is -/
theorem m_downBy0 (h : mYY s o cs p) (ht : t < p.1.2.2) (hq : ∀ s', mA s s' → mYY s' o cs p → Q (some (.int (nI (gA_dn 61 p t)))) (gm_m s')) : gc_X w (d + 6) 159 0 [some (.ref 137), some (.int (nI t)), some (.int (-9)), none] [] (gm_m s) Q := by
  have h0 := h
  obtain ⟨hY, hk, hk2, hcs, hh⟩ := h
  simp only [E_X12_downBy_0, E_X12_downBy_1, rc_137, List.map_nil, List.map_cons, List.sum_cons, List.sum_nil, gcat_i, gcat_r, gcat_l, Nat.reduceAdd, Nat.reduceLeDiff, Nat.zero_le, Option.toList, List.cons_append, List.nil_append, gnk_i, gnk_r, gnk_n, gi_1, Nat.reduceLT, if_true, if_false]
  refine m_save hk hk2 hY (fun s1 hA1 hK1 hY1 => ?_)
  have n9 : (-9 : Int32) < 0 := by decide
  simp only [E_X12_downBy_4, E_X12_downBy_5, n9, List.map_nil, List.map_cons, List.sum_cons, List.sum_nil, gcat_i, gcat_r, gcat_l, Nat.reduceAdd, Nat.reduceLeDiff, Nat.zero_le, Option.toList, List.cons_append, List.nil_append, gnk_i, gnk_r, gnk_n, gi_1, Nat.reduceLT, if_true, if_false]
  exact m_dn_end h0 hA1 hK1 hk hk2 hh ht hY1 hq
/-- by a crane -/
theorem m_downBy1 {c : Nat} (h : mYY s o cs p) (ht : t < p.1.2.2) (hc : c < 8) (hq : ∀ s', mA s s' → mYY s' o cs p → Q (some (.int (nI (gA_dn 61 (gA_set p 13 t (nI c)) t)))) (gm_m s')) : gc_X w (d + 6) 159 0 [some (.ref 137), some (.int (nI t)), some (.int (nI c)), none] [] (gm_m s) Q := by
  have h0 := h
  obtain ⟨hY, hk, hk2, hcs, hh⟩ := h
  have k8 := hk.2.1
  have i3 : vp_in (nI t) 8 := vp_in_nI (by omega) (by omega)
  have i4 : (nI t).toNatClampNeg = t := nI_clamp (by omega)
  simp only [E_X12_downBy_0, E_X12_downBy_1, rc_137, List.map_nil, List.map_cons, List.sum_cons, List.sum_nil, gcat_i, gcat_r, gcat_l, Nat.reduceAdd, Nat.reduceLeDiff, Nat.zero_le, Option.toList, List.cons_append, List.nil_append, gnk_i, gnk_r, gnk_n, gi_1, Nat.reduceLT, if_true, if_false]
  refine m_save hk hk2 hY (fun s1 hA1 hK1 hY1 => ?_)
  have n9 : ¬ nI c < 0 := nI_pos (by omega)
  have hY2 := mY_sent (t := t) (x := nI c) hY1 hk
  rw [mS_c hc] at hY2
  simp only [E_X12_downBy_4, E_X12_downBy_5, E_X12_downBy_8, E_X12_downBy_9, E_X12_downBy_12, E_X12_downBy_13, E_X12_downBy_14, rk_137, rg_137_9, ra_144, rs_144, i3, i4, n9, List.map_nil, List.map_cons, List.sum_cons, List.sum_nil, gcat_i, gcat_r, gcat_l, Nat.reduceAdd, Nat.reduceLeDiff, Nat.zero_le, Option.toList, List.cons_append, List.nil_append, gnk_i, gnk_r, gnk_n, gi_1, Nat.reduceLT, if_true, if_false]
  exact m_dn_end h0 (mA_si hA1 (by omega)) (mKp_si hK1 (by omega)) (gA_ok_set hk (by omega)) (gA_k2_set hk2 (by omega)) hh ht hY2 hq
theorem m_down (h : mYY s o cs p) (ht : t < p.1.2.2) (hq : ∀ s', mA s s' → mYY s' o cs p → Q (some (.int (a_dw p t))) (gm_m s')) : gc_X w (d + 7) 160 0 [some (.ref 137), some (.int (nI t)), none] [] (gm_m s) Q := by
  simp only [E_X12_down_0, E_X12_down_1, E_X12_down_2, E_X12_down_4, rc_137, List.map_nil, List.map_cons, List.sum_cons, List.sum_nil, gcat_i, gcat_r, gcat_l, Nat.reduceAdd, Nat.reduceLeDiff, Nat.zero_le, Option.toList, List.cons_append, List.nil_append, gnk_i, gnk_r, gnk_n, gi_1, Nat.reduceLT, if_true, if_false]
  refine m_downBy0 h ht (fun s' hA hY => ?_)
  have hle := gA_dn_le (n := 61) (p := p) (t := t)
  unfold a_dw at hq
  by_cases h6 : gA_dn 61 p t < 61
  · have hn : ¬ (61 : Int32) ≤ nI (gA_dn 61 p t) := nI_ge (b := 61) h6 (by omega)
    rw [if_pos h6] at hq
    simp only [E_X12_down_7, E_X12_down_8, E_X12_down_9, E_X12_down_11, E_X12_down_14, E_X12_down_15, E_X12_down_20, hn, List.map_nil, List.map_cons, List.sum_cons, List.sum_nil, gcat_i, gcat_r, gcat_l, Nat.reduceAdd, Nat.reduceLeDiff, Nat.zero_le, Option.toList, List.cons_append, List.nil_append, gnk_i, gnk_r, gnk_n, gi_1, Nat.reduceLT, if_true, if_false]
    exact hq s' hA hY
  · have e : gA_dn 61 p t = 61 := by omega
    have hn : (61 : Int32) ≤ nI (gA_dn 61 p t) := nI_le (a := 61) (by omega) (by omega)
    rw [if_neg h6] at hq
    simp only [E_X12_down_7, E_X12_down_8, E_X12_down_9, E_X12_down_11, E_X12_down_18, E_X12_down_20, hn, List.map_nil, List.map_cons, List.sum_cons, List.sum_nil, gcat_i, gcat_r, gcat_l, Nat.reduceAdd, Nat.reduceLeDiff, Nat.zero_le, Option.toList, List.cons_append, List.nil_append, gnk_i, gnk_r, gnk_n, gi_1, Nat.reduceLT, if_true, if_false]
    exact hq s' hA hY
theorem m_best_loop {s0 : gm_S} (ht : t < p.1.2.2) (hq : ∀ s', mA s0 s' → mYY s' o cs p → Q (some (.int (gA_bc p t p.1.2.1 0 (-5) 61))) (gm_m s')) : ∀ (n c : Nat) (f : Int32) (low : Nat) (s : gm_S) (l5 : Option Value), c + n = p.1.2.1 → low ≤ 61 → mA s0 s → mYY s o cs p → gA_bc p t n c f low = gA_bc p t p.1.2.1 0 (-5) 61 → gc_X w (d + 7) 161 21 [some (.ref 137), some (.int (nI t)), some (.int f), some (.int (nI low)), some (.int (nI c)), l5] [] (gm_m s) Q := by
  intro n
  induction n with
  | zero =>
    intro c f low s l5 hc hl hA h he
    have k1 := h.2.1.1
    have h0 := h.1.1.1
    have e : p.1.2.1 = c := by omega
    rw [e] at h0
    rw [E_X12_bestCrane_21]
    simp only [E_X12_bestCrane_23, E_X12_bestCrane_24, E_X12_bestCrane_27, E_X12_bestCrane_60, E_X12_bestCrane_61, rk_137, rg_137_0, h0, nI_le (Nat.le_refl c) (by omega : c < 2 ^ 31), gnk_i, gnk_r, gnk_n, gi_1, Nat.reduceLT, if_true, if_false]
    rw [show f = gA_bc p t p.1.2.1 0 (-5) 61 from he]
    exact hq s hA h
  | succ n ih =>
    intro c f low s l5 hc hl hA h he
    have k1 := h.2.1.1
    have h0 := h.1.1.1
    have hge : ¬ nI p.1.2.1 ≤ nI c := nI_ge (by omega) (by omega)
    rw [E_X12_bestCrane_21]
    simp only [E_X12_bestCrane_23, E_X12_bestCrane_24, E_X12_bestCrane_27, E_X12_bestCrane_30, E_X12_bestCrane_31, E_X12_bestCrane_32, E_X12_bestCrane_34, rk_137, rc_137, rg_137_0, h0, hge, List.map_nil, List.map_cons, List.sum_cons, List.sum_nil, gcat_i, gcat_r, gcat_l, Nat.reduceAdd, Nat.reduceLeDiff, Nat.zero_le, Option.toList, List.cons_append, List.nil_append, gnk_i, gnk_r, gnk_n, gi_1, Nat.reduceLT, if_true, if_false]
    refine m_downBy1 h ht (by omega) (fun s' hA' h' => ?_)
    have hle := gA_dn_le (n := 61) (p := gA_set p 13 t (nI c)) (t := t)
    have hi := ih (c + 1)
    rw [nI_succ] at hi
    rw [gA_bc] at he
    generalize gA_dn 61 (gA_set p 13 t (nI c)) t = D at hle he ⊢
    by_cases hD : D < low
    · rw [if_pos hD] at he
      have h3 : nI D < nI low := nI_lt hD (by omega)
      simp only [E_X12_bestCrane_37, E_X12_bestCrane_39, E_X12_bestCrane_41, E_X12_bestCrane_42, E_X12_bestCrane_48, E_X12_bestCrane_50, E_X12_bestCrane_51, E_X12_bestCrane_53, E_X12_bestCrane_54, E_X12_bestCrane_57, h3, List.map_nil, List.map_cons, List.sum_cons, List.sum_nil, gcat_i, gcat_r, gcat_l, Nat.reduceAdd, Nat.reduceLeDiff, Nat.zero_le, Option.toList, List.cons_append, List.nil_append, gnk_i, gnk_r, gnk_n, gi_1, Nat.reduceLT, if_true, if_false]
      exact hi _ D s' _ (by omega) (by omega) (mA_trans hA hA') h' he
    · rw [if_neg hD] at he
      have h3 : ¬ nI D < nI low := nI_nlt (by omega) (by omega)
      simp only [E_X12_bestCrane_37, E_X12_bestCrane_39, E_X12_bestCrane_41, E_X12_bestCrane_42, E_X12_bestCrane_45, E_X12_bestCrane_54, E_X12_bestCrane_57, h3, List.map_nil, List.map_cons, List.sum_cons, List.sum_nil, gcat_i, gcat_r, gcat_l, Nat.reduceAdd, Nat.reduceLeDiff, Nat.zero_le, Option.toList, List.cons_append, List.nil_append, gnk_i, gnk_r, gnk_n, gi_1, Nat.reduceLT, if_true, if_false]
      exact hi _ low s' _ (by omega) hl (mA_trans hA hA') h' he
theorem m_bestCrane (h : mYY s o cs p) (ht : t < p.1.2.2) (hq : ∀ s', mA s s' → mYY s' o cs p → Q (some (.int (a_sent p t))) (gm_m s')) : gc_X w (d + 7) 161 0 [some (.ref 137), some (.int (nI t)), none, none, none, none] [] (gm_m s) Q := by
  have k8 := h.2.1.2.1
  have i3 : vp_in (nI t) 8 := vp_in_nI (by omega) (by omega)
  have i4 : (nI t).toNatClampNeg = t := nI_clamp (by omega)
  obtain ⟨-, -, a14, -, -⟩ := h.1.1.2.2.2.2.2 t ht
  unfold a_sent at hq
  by_cases h0 : p.2.1 14 t = 0
  · rw [if_pos h0] at hq
    simp only [E_X12_bestCrane_0, E_X12_bestCrane_1, E_X12_bestCrane_4, E_X12_bestCrane_5, E_X12_bestCrane_6, E_X12_bestCrane_12, E_X12_bestCrane_14, E_X12_bestCrane_15, E_X12_bestCrane_17, E_X12_bestCrane_18, E_X12_bestCrane_19, rk_137, rg_137_10, ra_145, rv_145, i3, i4, a14, h0, gnk_i, gnk_r, gnk_n, gi_1, Nat.reduceLT, if_true, if_false]
    rw [show (61 : Int32) = nI 61 from rfl, show (0 : Int32) = nI 0 from rfl]
    exact m_best_loop ht hq p.1.2.1 0 (-5) 61 s none (by omega) (by omega) mA_refl h rfl
  · rw [if_neg h0] at hq
    simp only [E_X12_bestCrane_0, E_X12_bestCrane_1, E_X12_bestCrane_4, E_X12_bestCrane_5, E_X12_bestCrane_6, E_X12_bestCrane_9, E_X12_bestCrane_11, rk_137, rg_137_10, ra_145, rv_145, i3, i4, a14, h0, gnk_i, gnk_r, gnk_n, gi_1, Nat.reduceLT, if_true, if_false]
    exact hq s mA_refl h
end
