/-! hours of the reference, the loops -/
theorem gA_k2_swing {p : gA} {c t : Nat} (h : gA_k2 p) : gA_k2 (gA_swing p c t) := by
  obtain ⟨h1, h2, h3⟩ := h
  unfold gA_swing gA_land
  split
  · split
    · rename_i q
      refine ⟨?_, fun u hu hs => ?_, fun c' hc => ?_⟩
      · simpa [gA_set_at] using h1
      · by_cases e : u = t
        · subst e
          simp only [gA_set_at, Nat.reduceEqDiff, false_and, and_self, if_true, if_false] at q ⊢
          rw [gx_lt] at q
          rw [gx_le, gx_99] at h1
          rw [gx_le, gx_98]
          omega
        · simp only [gA_set_at, Nat.reduceEqDiff, false_and, and_false, if_false, e] at hs ⊢
          exact h2 u hu hs
      · simp only [gA_set_at, Nat.reduceEqDiff, false_and, if_false]
        exact h3 c' hc
    · refine ⟨?_, fun u hu hs => ?_, fun c' hc => ?_⟩
      · simpa [gA_set_at] using h1
      · by_cases e : u = t
        · subst e
          simp [gA_set_at] at hs
        · simp only [gA_set_at, Nat.reduceEqDiff, false_and, and_false, if_false, e] at hs ⊢
          exact h2 u hu hs
      · have h3' := h3 c' hc
        by_cases e : c' = c
        · subst e
          simp only [gA_set_at, Nat.reduceEqDiff, false_and, and_self, if_true, if_false]
          split
          · rename_i q
            rw [gx_lt, gx_9999] at q
            rw [gx_le, gx_le, gx_0, gx_9999] at h3' ⊢
            rw [gx_inc (by omega)] at q ⊢
            omega
          · decide
        · simp only [gA_set_at, Nat.reduceEqDiff, false_and, and_false, if_false, e]
          exact h3'
  · refine ⟨?_, fun u hu hs => ?_, fun c' hc => ?_⟩
    · simpa [gA_set_at] using h1
    · by_cases e : u = t
      · subst e
        simp [gA_set_at] at hs
      · simp only [gA_set_at, Nat.reduceEqDiff, false_and, and_false, if_false, e] at hs ⊢
        exact h2 u hu hs
    · simp only [gA_set_at, Nat.reduceEqDiff, false_and, if_false]
      exact h3 c' hc
theorem gA_k2_fresh {p : gA} {t : Nat} {x : Int32} (h : gA_k2 p) : gA_k2 (gA_fresh p t x) := by
  obtain ⟨h1, h2, h3⟩ := h
  unfold gA_fresh
  refine ⟨?_, fun u hu hs => ?_, fun c' hc => ?_⟩
  · simpa [gA_set_at] using h1
  · by_cases e : u = t
    · subst e
      simp only [gA_set_at, and_self, if_true]
      decide
    · simp only [gA_set_at, Nat.reduceEqDiff, false_and, and_false, if_false, e] at hs ⊢
      exact h2 u hu hs
  · simp only [gA_set_at, Nat.reduceEqDiff, false_and, if_false]
    exact h3 c' hc
theorem gA_k2_hangN {p : gA} {c : Nat} (h : gA_k2 p) : ∀ {n t : Nat}, gA_k2 (gA_hangN p c n t)
  | 0, _ => h
  | n + 1, t => by
    unfold gA_hangN
    split
    · exact gA_k2_fresh h
    · exact gA_k2_hangN h
theorem gA_k2_crane {p : gA} {c : Nat} (h : gA_k2 p) : gA_k2 (gA_crane p c) := by
  unfold gA_crane
  split
  · exact gA_k2_swing h
  · exact gA_k2_hangN h
theorem gA_k2_cranes : ∀ {n c : Nat} {p : gA}, gA_k2 p → gA_k2 (gA_cranes n c p)
  | 0, _, _, h => h
  | n + 1, c, p, h => by
    unfold gA_cranes
    exact gA_k2_cranes (gA_k2_crane h)
theorem gA_k2_hour {p : gA} (h : gA_k2 p) : gA_k2 (gA_hour p) := by
  have e := gA_k2_cranes (n := p.1.2.1) (c := 0) h
  have e2 : (gA_cranes p.1.2.1 0 p).1 = p.1 := gA_cranes_n
  obtain ⟨h1, h2, h3⟩ := e
  exact ⟨h1, fun t ht hs => h2 t (by rw [e2]; exact ht) hs, fun c hc => h3 c (by rw [e2]; exact hc)⟩
theorem gA_k2_go : ∀ {n : Nat} {p : gA}, gA_k2 p → gA_k2 (gA_go n p)
  | 0, _, h => h
  | n + 1, p, h => by
    unfold gA_go
    exact gA_k2_go (gA_k2_hour h)
theorem gA_go_n : ∀ {n : Nat} {p : gA}, (gA_go n p).1 = (p.1.1 + n, p.1.2)
  | 0, _ => rfl
  | n + 1, p => by
    unfold gA_go
    rw [gA_go_n]
    show (p.1.1 + 1 + n, p.1.2) = _
    rw [Nat.add_assoc, Nat.add_comm 1 n]
theorem gA_go_ok : ∀ {n : Nat} {p : gA}, gA_ok p → p.1.1 + n < 2 ^ 30 → gA_ok (gA_go n p)
  | 0, _, h, _ => h
  | n + 1, p, h, hh => by
    unfold gA_go
    exact gA_go_ok (gA_hour_ok h (by omega)) (by show p.1.1 + 1 + n < _; omega)
theorem mY_hour {K : Int32} {s : gm_S} {o : Option Nat} {cs : List fC} {p : gA} {h : Nat} (hY : mY K s o cs p) (hk : p.1.2.1 ≤ 6) : mY K (gm_si s 137 2 (nI h)) o cs ((h, p.1.2), p.2) := by
  obtain ⟨h1, h2, h3, h4, h5⟩ := hY
  obtain ⟨r1, r2, r3, r4, r5, r6⟩ := h1
  refine ⟨⟨?_, ?_, ?_, fun k hk => ?_, fun c hc => ⟨?_, ?_, fun k hk => ?_⟩, fun u hu => ⟨?_, ?_, ?_, ?_, ?_⟩⟩, mFm_fr h2 (fun b j hb hb2 => by rw [gsi_1, if_neg (fun e => by omega)]) (by rw [gsi_1, if_neg (fun e => by omega)]), ?_, fun c' hc => ?_, h5⟩
  · rw [gsi_1, if_neg (fun e => by omega)]
    exact r1
  · rw [gsi_1, if_neg (fun e => by omega)]
    exact r2
  · rw [gsi_1, if_pos ⟨rfl, rfl⟩]
  · rw [gsi_1, if_neg (fun e => by omega)]
    exact r4 k hk
  · rw [gsi_1, if_neg (fun e => by omega)]
    exact (r5 c hc).1
  · rw [gsi_1, if_neg (fun e => by omega)]
    exact (r5 c hc).2.1
  · rw [gsi_1, if_neg (fun e => by omega)]
    exact (r5 c hc).2.2 k hk
  · rw [gsi_1, if_neg (fun e => by omega)]
    exact (r6 u hu).1
  · rw [gsi_1, if_neg (fun e => by omega)]
    exact (r6 u hu).2.1
  · rw [gsi_1, if_neg (fun e => by omega)]
    exact (r6 u hu).2.2.1
  · rw [gsi_1, if_neg (fun e => by omega)]
    exact (r6 u hu).2.2.2.1
  · rw [gsi_1, if_neg (fun e => by omega)]
    exact (r6 u hu).2.2.2.2
  · rw [gsi_1, if_neg (fun e => by omega)]
    exact h3
  · rw [gsi_1, if_neg (fun e => by omega)]
    exact h4 c' hc
theorem nI_neg5 : (-5 : Int32) < 0 := by decide
section
variable {w : Nat × (Nat → Int32)} {d : Nat} {Q : Option Value → gc_M → Prop} {cs : List fC} {o : Option Nat} {K : Int32}
theorem m_cranes_loop (hcs : fCs cs) : ∀ (n c : Nat) (s : gm_S) (p : gA) (l2 : Option Value), gA_ok p → gA_k2 p → c + n = p.1.2.1 → mY K s o cs p → (∀ s' l2', mG s s' → mY K s' o cs (gA_cranes n c p) → gc_X w (d + 5) 153 40 [some (.ref 137), some (.int (nI p.1.2.1)), l2'] [] (gm_m s') Q) → gc_X w (d + 5) 153 2 [some (.ref 137), some (.int (nI c)), l2] [] (gm_m s) Q := by
  intro n
  induction n with
  | zero =>
    intro c s p l2 hk hk2 hc hY hq
    have hk1 := hk.1
    have h4 := hY.1.1
    have e : p.1.2.1 = c := by omega
    rw [e] at h4 hq
    rw [E_X12_goHour_2]
    simp only [E_X12_goHour_3, E_X12_goHour_4, E_X12_goHour_7, rk_137, rg_137_0, h4, nI_le (Nat.le_refl c) (by omega : c < 2 ^ 31), gnk_i, gnk_r, gnk_n, gi_1, Nat.reduceLT, if_true, if_false]
    exact hq s l2 mG_refl hY
  | succ n ih =>
    intro c s p l2 hk hk2 hc hY hq
    have hk1 := hk.1
    have hk8 := hk.2.1
    have h4 := hY.1.1
    have hcl : c < p.1.2.1 := by omega
    have hge : ¬ nI p.1.2.1 ≤ nI c := nI_ge (by omega) (by omega)
    have hi := ih (c + 1)
    rw [nI_succ] at hi
    have hu := fun (Q : Option Value → gc_M → Prop) => m_hung (w := w) (d := d + 4) (Q := Q) hY.1 hk hcl
    rw [gA_cranes] at hq
    have hck := gA_crane_ok (c := c) hk
    have hck2 := gA_k2_crane (c := c) hk2
    have hcn := gA_crane_n (p := p) (c := c)
    rw [E_X12_goHour_2]
    unfold gA_crane at hq hck hcn hck2
    cases hh : gA_hung p c with
    | none =>
      rw [hh] at hq hck hcn hck2
      simp only [E_X12_goHour_0, E_X12_goHour_1, E_X12_goHour_3, E_X12_goHour_4, E_X12_goHour_7, E_X12_goHour_10, E_X12_goHour_11, E_X12_goHour_12, E_X12_goHour_15, E_X12_goHour_16, E_X12_goHour_17, E_X12_goHour_20, E_X12_goHour_21, E_X12_goHour_22, E_X12_goHour_23, E_X12_goHour_26, E_X12_goHour_29, E_X12_goHour_30, E_X12_goHour_31, E_X12_goHour_34, E_X12_goHour_37, E_X12_goHour_41, E_X12_goHour_42, E_X12_goHour_45, E_X12_goHour_46, E_X12_goHour_47, E_X12_goHour_50, rk_137, rc_137, rg_137_0, h4, hge, hu, hh, gp_i, nI_neg5, List.map_nil, List.map_cons, List.sum_cons, List.sum_nil, gcat_i, gcat_r, gcat_l, Nat.reduceAdd, Nat.reduceLeDiff, Nat.zero_le, Option.toList, List.cons_append, List.nil_append, gnk_i, gnk_r, gnk_n, gi_1, Nat.reduceLT, if_true, if_false]
      refine m_hang1 hY hk hcs hcl (fun s' hf hY' => ?_)
      simp only [E_X12_goHour_34, E_X12_goHour_37, List.map_nil, List.map_cons, List.sum_cons, List.sum_nil, gcat_i, gcat_r, gcat_l, Nat.reduceAdd, Nat.reduceLeDiff, Nat.zero_le, Option.toList, List.cons_append, List.nil_append, gnk_i, gnk_r, gnk_n, gi_1, Nat.reduceLT, if_true, if_false]
      refine hi s' _ _ hck hck2 (by rw [hcn]; omega) hY' (fun s2 l2' hf2 hY2 => ?_)
      rw [hcn]
      exact hq s2 l2' (mG_trans hf hf2) hY2
    | some t =>
      rw [hh] at hq hck hcn hck2
      have ht := gA_hung_lt hh
      have hst : p.2.1 14 t = 1 := by
        have := (gp_first_lt hh).2.2
        unfold gA_hg at this
        simp only [Bool.and_eq_true, decide_eq_true_eq] at this
        exact this.1
      have hnn : ¬ nI t < 0 := nI_pos (by omega)
      simp only [E_X12_goHour_0, E_X12_goHour_1, E_X12_goHour_3, E_X12_goHour_4, E_X12_goHour_7, E_X12_goHour_10, E_X12_goHour_11, E_X12_goHour_12, E_X12_goHour_15, E_X12_goHour_16, E_X12_goHour_17, E_X12_goHour_20, E_X12_goHour_21, E_X12_goHour_22, E_X12_goHour_23, E_X12_goHour_26, E_X12_goHour_29, E_X12_goHour_30, E_X12_goHour_31, E_X12_goHour_34, E_X12_goHour_37, E_X12_goHour_41, E_X12_goHour_42, E_X12_goHour_45, E_X12_goHour_46, E_X12_goHour_47, E_X12_goHour_50, rk_137, rc_137, rg_137_0, h4, hge, hu, hh, gp_i, hnn, List.map_nil, List.map_cons, List.sum_cons, List.sum_nil, gcat_i, gcat_r, gcat_l, Nat.reduceAdd, Nat.reduceLeDiff, Nat.zero_le, Option.toList, List.cons_append, List.nil_append, gnk_i, gnk_r, gnk_n, gi_1, Nat.reduceLT, if_true, if_false]
      refine m_swings hY hk hk2 hcs hcl ht hst (fun s' hf hY' => ?_)
      simp only [E_X12_goHour_26, E_X12_goHour_34, E_X12_goHour_37, List.map_nil, List.map_cons, List.sum_cons, List.sum_nil, gcat_i, gcat_r, gcat_l, Nat.reduceAdd, Nat.reduceLeDiff, Nat.zero_le, Option.toList, List.cons_append, List.nil_append, gnk_i, gnk_r, gnk_n, gi_1, Nat.reduceLT, if_true, if_false]
      refine hi s' _ _ hck hck2 (by rw [hcn]; omega) hY' (fun s2 l2' hf2 hY2 => ?_)
      rw [hcn]
      exact hq s2 l2' (mG_trans hf hf2) hY2
theorem m_goHour {s : gm_S} {p : gA} (hcs : fCs cs) (hk : gA_ok p) (hk2 : gA_k2 p) (hY : mY K s o cs p) (hq : ∀ s', mG s s' → mY K s' o cs (gA_hour p) → Q none (gm_m s')) : gc_X w (d + 5) 153 0 [some (.ref 137), none, none] [] (gm_m s) Q := by
  simp only [E_X12_goHour_0, E_X12_goHour_1, gnk_i, gnk_r, gnk_n, gi_1, Nat.reduceLT, if_true, if_false]
  rw [← nI_0]
  refine m_cranes_loop hcs p.1.2.1 0 s p _ hk hk2 (by omega) hY (fun s' l2' hf hY' => ?_)
  have e2 : (gA_cranes p.1.2.1 0 p).1 = p.1 := gA_cranes_n
  have hY2 := mY_hour (h := p.1.1 + 1) hY' (by rw [e2]; exact hk.1)
  rw [e2, nI_succ] at hY2
  have h2 := hY'.1.2.2.1
  rw [e2] at h2
  simp only [E_X12_goHour_40, E_X12_goHour_41, E_X12_goHour_42, E_X12_goHour_45, E_X12_goHour_46, E_X12_goHour_47, E_X12_goHour_50, rk_137, rg_137_2, rp_137_2, h2, gnk_i, gnk_r, gnk_n, gi_1, Nat.reduceLT, if_true, if_false]
  exact hq _ (mG_trans hf (mG_si mG_refl (by omega))) hY2
theorem m_goHours_loop (hcs : fCs cs) {hn : Nat} (hb : hn < 2 ^ 31) : ∀ (n i : Nat) (s : gm_S) (p : gA), gA_ok p → gA_k2 p → i + n = hn → p.1.1 + n < 2 ^ 30 → mY K s o cs p → (∀ s', mG s s' → mY K s' o cs (gA_go n p) → Q none (gm_m s')) → gc_X w (d + 6) 154 2 [some (.ref 137), some (.int (nI hn)), some (.int (nI i))] [] (gm_m s) Q := by
  intro n
  induction n with
  | zero =>
    intro i s p hk hk2 hc _ hY hq
    have e : hn = i := by omega
    subst e
    rw [E_X12_goHours_2]
    simp only [E_X12_goHours_3, E_X12_goHours_4, E_X12_goHours_17, nI_le (Nat.le_refl hn) hb, if_true]
    exact hq s mG_refl hY
  | succ n ih =>
    intro i s p hk hk2 hc hh hY hq
    have hge : ¬ nI hn ≤ nI i := nI_ge (by omega) hb
    rw [E_X12_goHours_2]
    simp only [E_X12_goHours_3, E_X12_goHours_4, E_X12_goHours_7, E_X12_goHours_8, rc_137, hge, List.map_nil, List.map_cons, List.sum_cons, List.sum_nil, gcat_i, gcat_r, gcat_l, Nat.reduceAdd, Nat.reduceLeDiff, Nat.zero_le, Option.toList, List.cons_append, List.nil_append, gnk_i, gnk_r, gnk_n, gi_1, Nat.reduceLT, if_true, if_false]
    refine m_goHour hcs hk hk2 hY (fun s' hf hY' => ?_)
    simp only [E_X12_goHours_11, E_X12_goHours_14, List.map_nil, List.map_cons, List.sum_cons, List.sum_nil, gcat_i, gcat_r, gcat_l, Nat.reduceAdd, Nat.reduceLeDiff, Nat.zero_le, Option.toList, List.cons_append, List.nil_append, gnk_i, gnk_r, gnk_n, gi_1, Nat.reduceLT, if_true, if_false]
    rw [← nI_succ i]
    refine ih (i + 1) _ (gA_hour p) (gA_hour_ok hk (by omega)) (gA_k2_hour hk2) (by omega) (by show p.1.1 + 1 + n < _; omega) hY' (fun s2 hf2 hY3 => ?_)
    exact hq s2 (mG_trans hf hf2) hY3
/-- hours go in the reference -/
theorem m_go {hn : Nat} {s : gm_S} {p : gA} (hcs : fCs cs) (hk : gA_ok p) (hk2 : gA_k2 p) (hb : p.1.1 + hn < 2 ^ 30) (hY : mY K s o cs p) (hq : ∀ s', mG s s' → mY K s' o cs (gA_go hn p) → Q none (gm_m s')) : gc_X w (d + 6) 154 0 [some (.ref 137), some (.int (nI hn)), none] [] (gm_m s) Q := by
  have h := m_goHours_loop (w := w) (d := d) (Q := Q) hcs (by omega : hn < 2 ^ 31) hn 0 s p hk hk2 (by omega) hb hY hq
  rw [nI_0] at h
  simp only [E_X12_goHours_0, E_X12_goHours_1, gnk_i, gnk_r, gnk_n, gi_1, Nat.reduceLT, if_true, if_false]
  exact h
end
