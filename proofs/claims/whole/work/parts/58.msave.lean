/-! the reference: saved, put back -/
/-- memory s is s0 but at the places W, where it holds what s0 holds at the cell src tells -/
def gCw (s0 s : gm_S) (src : Nat → Nat) (W : Nat → Nat → Prop) : Prop := s.2 = s0.2 ∧ ∀ b j, (W b j → s.1 b j = s0.1 (src b) j) ∧ (¬ W b j → s.1 b j = s0.1 b j)
theorem gCw_0 {s : gm_S} {src : Nat → Nat} {W : Nat → Nat → Prop} (h : ∀ b j, ¬ W b j) : gCw s s src W := ⟨rfl, fun b j => ⟨fun q => absurd q (h b j), fun _ => rfl⟩⟩
theorem gCw_cg {s0 s : gm_S} {src : Nat → Nat} {W W' : Nat → Nat → Prop} (h : gCw s0 s src W) (e : ∀ b j, W' b j ↔ W b j) : gCw s0 s src W' := ⟨h.1, fun b j => ⟨fun q => (h.2 b j).1 ((e b j).mp q), fun q => (h.2 b j).2 (fun q2 => q ((e b j).mpr q2))⟩⟩
theorem gCw_si {s0 s : gm_S} {src : Nat → Nat} {W : Nat → Nat → Prop} {a i : Nat} {x : Int32} (h : gCw s0 s src W) (hx : x = s0.1 (src a) i) : gCw s0 (gm_si s a i x) src (fun b j => W b j ∨ (b = a ∧ j = i)) := by
  refine ⟨by rw [gsi_2]; exact h.1, fun b j => ⟨fun q => ?_, fun q => ?_⟩⟩
  · rw [gsi_1]
    by_cases e : b = a ∧ j = i
    · rw [if_pos e, hx, e.1, e.2]
    · rw [if_neg e]
      rcases q with q | q
      · exact (h.2 b j).1 q
      · exact absurd q e
  · rw [gsi_1, if_neg (fun e => q (Or.inr e))]
    exact (h.2 b j).2 (fun q2 => q (Or.inl q2))
theorem gCw_at {s0 s : gm_S} {src : Nat → Nat} {W : Nat → Nat → Prop} (h : gCw s0 s src W) {b j : Nat} (q : ¬ W b j) : s.1 b j = s0.1 b j := (h.2 b j).2 q
def mAsk (b j : Nat) : Prop := (b = 137 ∧ (j = 2 ∨ j = 31 ∨ j = 32)) ∨ b = 141 ∨ (144 ≤ b ∧ b ≤ 147) ∨ (157 ≤ b ∧ b ≤ 162)
/-- all but what is asked writes -/
def mA (s s' : gm_S) : Prop := s'.2 = s.2 ∧ ∀ b j, ¬ mAsk b j → s'.1 b j = s.1 b j
theorem mA_refl {s : gm_S} : mA s s := ⟨rfl, fun _ _ _ => rfl⟩
theorem mA_trans {s s' s2 : gm_S} (h : mA s s') (h2 : mA s' s2) : mA s s2 := ⟨h2.1.trans h.1, fun b j q => (h2.2 b j q).trans (h.2 b j q)⟩
theorem mA_G {s s' : gm_S} (h : mG s s') : mA s s' := ⟨h.1, fun b j q => h.2 b j (fun e => q (by unfold mAsk; omega)) (fun e => q (by unfold mAsk; omega)) (fun e => q (by unfold mAsk; omega)) (fun e => q (by unfold mAsk; omega)) (fun e => q (by unfold mAsk; omega)) (fun e => q (by unfold mAsk; omega))⟩
theorem mA_si {s s' : gm_S} {a k : Nat} {x : Int32} (h : mA s s') (ha : 144 ≤ a ∧ a ≤ 147) : mA s (gm_si s' a k x) := by
  refine ⟨by rw [gsi_2]; exact h.1, fun b j q => ?_⟩
  rw [gsi_1, if_neg (fun e => q (by unfold mAsk; omega))]
  exact h.2 b j q
/-- what is saved of s0 -/
def mKp (s0 s : gm_S) : Prop := s.1 137 32 = s0.1 137 2 ∧ (∀ c, c < 6 → s.1 158 c = s0.1 141 c) ∧ ∀ t, t < 8 → s.1 159 t = s0.1 144 t ∧ s.1 160 t = s0.1 145 t ∧ s.1 161 t = s0.1 146 t ∧ s.1 162 t = s0.1 147 t
theorem mKp_cg {s0 s s' : gm_S} (h : mKp s0 s) (e : ∀ b j, (158 ≤ b ∧ b ≤ 162) ∨ (b = 137 ∧ j = 32) → s'.1 b j = s.1 b j) : mKp s0 s' := by
  obtain ⟨h1, h2, h3⟩ := h
  refine ⟨(e 137 32 (by omega)).trans h1, fun c hc => (e 158 c (by omega)).trans (h2 c hc), fun t ht => ?_⟩
  obtain ⟨a, b, c, d⟩ := h3 t ht
  exact ⟨(e 159 t (by omega)).trans a, (e 160 t (by omega)).trans b, (e 161 t (by omega)).trans c, (e 162 t (by omega)).trans d⟩
theorem mKp_G {s0 s s' : gm_S} (h : mKp s0 s) (e : mG s s') : mKp s0 s' := mKp_cg h (fun b j q => e.2 b j (by omega) (by omega) (by omega) (by omega) (by omega) (by omega))
theorem mKp_si {s0 s : gm_S} {a k : Nat} {x : Int32} (h : mKp s0 s) (ha : 138 ≤ a ∧ a ≤ 147) : mKp s0 (gm_si s a k x) := mKp_cg h (fun b j q => by rw [gsi_1, if_neg (fun e => by omega)])
/-- the yard told by the cells that it is told by -/
theorem mR_cg {s s' : gm_S} {p : gA} (h : mR s p) (hk : gA_ok p) (e0 : ∀ j, j ≤ 2 → s'.1 137 j = s.1 137 j) (e1 : ∀ b j, (138 ≤ b ∧ b ≤ 140) ∨ b = 142 ∨ b = 143 → s'.1 b j = s.1 b j) (e2 : ∀ b j, 144 ≤ b → b ≤ 147 → j < 8 → s'.1 b j = s.1 b j) : mR s' p := by
  have k2 := hk.2.1
  obtain ⟨r1, r2, r3, r4, r5, r6⟩ := h
  refine ⟨(e0 0 (by decide)).trans r1, (e0 1 (by decide)).trans r2, (e0 2 (by decide)).trans r3, fun k hk => (e1 138 k (by decide)).trans (r4 k hk), fun c hc => ⟨(e1 139 c (by decide)).trans (r5 c hc).1, (e1 140 c (by decide)).trans (r5 c hc).2.1, fun k hk => (e1 142 _ (by decide)).trans ((r5 c hc).2.2 k hk)⟩, fun t ht => ?_⟩
  obtain ⟨a, b, c, d, g⟩ := r6 t ht
  exact ⟨(e1 143 t (by decide)).trans a, (e2 144 t (by decide) (by decide) (by omega)).trans b, (e2 145 t (by decide) (by decide) (by omega)).trans c, (e2 146 t (by decide) (by decide) (by omega)).trans d, (e2 147 t (by decide) (by decide) (by omega)).trans g⟩
def gA_lf (p : gA) : Prop := ∀ c, c < p.1.2.1 → 0 ≤ p.2.1 4 c ∧ p.2.1 4 c ≤ 9999
section
variable {w : Nat × (Nat → Int32)} {d : Nat} {s : gm_S} {p : gA} {Q : Option Value → gc_M → Prop} {cs : List fC} {o : Option Nat} {K : Int32}
def mSrc (b : Nat) : Nat := if b = 158 then 141 else b - 15
def mSrc2 (b : Nat) : Nat := if b = 141 then 158 else b + 15
theorem m_save1 {s0 : gm_S} (hq : ∀ s' l1, gCw s0 s' mSrc (fun b j => b = 158 ∧ j < 6) → gc_X w d 156 41 [some (.ref 137), l1] [] (gm_m s') Q) : ∀ (n i : Nat) (s : gm_S), i + n = 6 → gCw s0 s mSrc (fun b j => b = 158 ∧ j < i) → gc_X w d 156 17 [some (.ref 137), some (.int (nI i))] [] (gm_m s) Q := by
  intro n
  induction n with
  | zero =>
    intro i s hi hC
    have e : i = 6 := by omega
    subst e
    rw [E_X12_save_17]
    simp (decide := true) only [E_X12_save_18, E_X12_save_20, if_true]
    exact hq s _ hC
  | succ n ih =>
    intro i s hi hC
    have i1 : vp_in (nI i) 6 := vp_in_nI (by omega) (by omega)
    have i2 : (nI i).toNatClampNeg = i := nI_clamp (by omega)
    have hge : ¬ (6 : Int32) ≤ nI i := nI_ge (b := 6) (by omega) (by omega)
    have hi2 := ih (i + 1)
    rw [nI_succ] at hi2
    rw [E_X12_save_17]
    simp only [E_X12_save_18, E_X12_save_20, E_X12_save_23, E_X12_save_24, E_X12_save_27, E_X12_save_28, E_X12_save_29, E_X12_save_32, E_X12_save_33, E_X12_save_34, E_X12_save_35, E_X12_save_38, rk_137, rg_137_33, rg_137_6, ra_141, rv_141, ra_158, rs_158, i1, i2, hge, gnk_i, gnk_r, gnk_n, gi_1, Nat.reduceLT, if_true, if_false]
    refine hi2 _ (by omega) (gCw_cg (gCw_si (a := 158) (i := i) hC (gCw_at hC (by omega))) (fun b j => by omega))
theorem m_save2 {s0 : gm_S} (hq : ∀ s', gCw s0 s' mSrc (fun b j => (b = 158 ∧ j < 6) ∨ (159 ≤ b ∧ b ≤ 162 ∧ j < 8)) → Q none (gm_m s')) : ∀ (n i : Nat) (s : gm_S), i + n = 8 → gCw s0 s mSrc (fun b j => (b = 158 ∧ j < 6) ∨ (159 ≤ b ∧ b ≤ 162 ∧ j < i)) → gc_X w d 156 43 [some (.ref 137), some (.int (nI i))] [] (gm_m s) Q := by
  intro n
  induction n with
  | zero =>
    intro i s hi hC
    have e : i = 8 := by omega
    subst e
    rw [E_X12_save_43]
    simp (decide := true) only [E_X12_save_44, E_X12_save_46, E_X12_save_103, if_true]
    exact hq s hC
  | succ n ih =>
    intro i s hi hC
    have i1 : vp_in (nI i) 8 := vp_in_nI (by omega) (by omega)
    have i2 : (nI i).toNatClampNeg = i := nI_clamp (by omega)
    have hge : ¬ (8 : Int32) ≤ nI i := nI_ge (b := 8) (by omega) (by omega)
    have hi2 := ih (i + 1)
    rw [nI_succ] at hi2
    rw [E_X12_save_43]
    simp only [E_X12_save_44, E_X12_save_46, E_X12_save_49, E_X12_save_50, E_X12_save_53, E_X12_save_54, E_X12_save_55, E_X12_save_58, E_X12_save_59, E_X12_save_60, E_X12_save_61, E_X12_save_62, E_X12_save_65, E_X12_save_66, E_X12_save_67, E_X12_save_70, E_X12_save_71, E_X12_save_72, E_X12_save_73, E_X12_save_74, E_X12_save_77, E_X12_save_78, E_X12_save_79, E_X12_save_82, E_X12_save_83, E_X12_save_84, E_X12_save_85, E_X12_save_86, E_X12_save_89, E_X12_save_90, E_X12_save_91, E_X12_save_94, E_X12_save_95, E_X12_save_96, E_X12_save_97, E_X12_save_100, E_X12_save_103, rk_137, rg_137_34, rg_137_35, rg_137_36, rg_137_37, rg_137_9, rg_137_10, rg_137_11, rg_137_12, ra_144, rv_144, ra_145, rv_145, ra_146, rv_146, ra_147, rv_147, ra_159, rs_159, ra_160, rs_160, ra_161, rs_161, ra_162, rs_162, i1, i2, hge, gsi_1, Nat.reduceEqDiff, false_and, gnk_i, gnk_r, gnk_n, gi_1, Nat.reduceLT, if_true, if_false]
    refine hi2 _ (by omega) (gCw_cg (gCw_si (a := 162) (i := i) (gCw_si (a := 161) (i := i) (gCw_si (a := 160) (i := i) (gCw_si (a := 159) (i := i) hC (gCw_at hC (by omega))) (gCw_at hC (by omega))) (gCw_at hC (by omega))) (gCw_at hC (by omega))) (fun b j => by omega))
theorem mL_weak {l : Int32} (h0 : 0 ≤ l) (h9 : l ≤ 9999) : mL 2000000000 l l := by
  refine Or.inr ⟨rfl, rfl, h0, ?_⟩
  rw [gx_le, gx_9999] at h9
  rw [gx_le, gx_2g]
  omega
theorem m_save (hk : gA_ok p) (hk2 : gA_k2 p) (hY : mY 9999 s o cs p) (hq : ∀ s', mA s s' → mKp s s' → mY 2000000000 s' o cs p → Q none (gm_m s')) : gc_X w d 156 0 [some (.ref 137), none] [] (gm_m s) Q := by
  have k1 := hk.1
  simp only [E_X12_save_0, E_X12_save_1, E_X12_save_4, E_X12_save_7, E_X12_save_8, E_X12_save_9, E_X12_save_12, E_X12_save_15, E_X12_save_16, rk_137, rg_137_2, rp_137_31, rp_137_32, gsi_1, Nat.reduceEqDiff, and_false, gnk_i, gnk_r, gnk_n, gi_1, Nat.reduceLT, if_true, if_false]
  rw [← nI_0]
  refine m_save1 (fun s1 l1 hC1 => ?_) 6 0 _ (by omega) (gCw_0 (fun b j q => by omega))
  simp only [E_X12_save_41, E_X12_save_42, gnk_i, gnk_r, gnk_n, gi_1, Nat.reduceLT, if_true, if_false]
  rw [← nI_0]
  refine m_save2 (fun s2 hC2 => ?_) 8 0 _ (by omega) (gCw_cg hC1 (fun b j => by omega))
  have at1 : ∀ b j, ¬ (158 ≤ b ∧ b ≤ 162) → ¬ (b = 137 ∧ (j = 31 ∨ j = 32)) → s2.1 b j = s.1 b j := by
    intro b j h1 h2
    rw [gCw_at hC2 (by omega), gsi_1, if_neg (fun e => by omega), gsi_1, if_neg (fun e => by omega)]
  have at2 : ∀ b j, (b = 158 ∧ j < 6) ∨ (159 ≤ b ∧ b ≤ 162 ∧ j < 8) → s2.1 b j = s.1 (mSrc b) j := by
    intro b j h1
    rw [(hC2.2 b j).1 h1]
    have : mSrc b < 157 ∧ 140 < mSrc b := by unfold mSrc; split <;> omega
    rw [gsi_1, if_neg (fun e => by omega), gsi_1, if_neg (fun e => by omega)]
  refine hq s2 ⟨hC2.1, fun b j q => at1 b j (fun e => q (by unfold mAsk; omega)) (fun e => q (by unfold mAsk; omega))⟩ ⟨?_, fun c hc => at2 158 c (by omega), fun t ht => ⟨at2 159 t (by omega), at2 160 t (by omega), at2 161 t (by omega), at2 162 t (by omega)⟩⟩ ?_
  · rw [gCw_at hC2 (by omega), gsi_1, if_pos ⟨rfl, rfl⟩]
  · obtain ⟨h1, h2, h3, h4, h5⟩ := hY
    refine ⟨mR_cg h1 hk (fun j hj => at1 _ _ (by omega) (by omega)) (fun b j hb => at1 _ _ (by omega) (by omega)) (fun b j hb hb2 _ => at1 _ _ (by omega) (by omega)), mFm_fr h2 (fun b j hb hb2 => at1 _ _ (by omega) (by omega)) (at1 _ _ (by omega) (by omega)), ?_, fun c hc => ?_, h5⟩
    · rw [gCw_at hC2 (by omega), gsi_1, if_neg (fun e => by omega), gsi_1, if_pos ⟨rfl, rfl⟩]
    · have e : s2.1 141 c = p.2.1 4 c := by
        rw [at1 _ _ (by omega) (by omega)]
        rcases h4 c hc with ⟨-, e⟩ | ⟨e, -⟩
        · exact e
        · exact absurd e (by decide)
      rw [e]
      exact mL_weak (hk2.2.2 c hc).1 (hk2.2.2 c hc).2
theorem m_put1 {s0 : gm_S} (hq : ∀ s' l1, gCw s0 s' mSrc2 (fun b j => b = 141 ∧ j < 6) → gc_X w d 157 41 [some (.ref 137), l1] [] (gm_m s') Q) : ∀ (n i : Nat) (s : gm_S), i + n = 6 → gCw s0 s mSrc2 (fun b j => b = 141 ∧ j < i) → gc_X w d 157 17 [some (.ref 137), some (.int (nI i))] [] (gm_m s) Q := by
  intro n
  induction n with
  | zero =>
    intro i s hi hC
    have e : i = 6 := by omega
    subst e
    rw [E_X12_putBack_17]
    simp (decide := true) only [E_X12_putBack_18, E_X12_putBack_20, if_true]
    exact hq s _ hC
  | succ n ih =>
    intro i s hi hC
    have i1 : vp_in (nI i) 6 := vp_in_nI (by omega) (by omega)
    have i2 : (nI i).toNatClampNeg = i := nI_clamp (by omega)
    have hge : ¬ (6 : Int32) ≤ nI i := nI_ge (b := 6) (by omega) (by omega)
    have hi2 := ih (i + 1)
    rw [nI_succ] at hi2
    rw [E_X12_putBack_17]
    simp only [E_X12_putBack_18, E_X12_putBack_20, E_X12_putBack_23, E_X12_putBack_24, E_X12_putBack_27, E_X12_putBack_28, E_X12_putBack_29, E_X12_putBack_32, E_X12_putBack_33, E_X12_putBack_34, E_X12_putBack_35, E_X12_putBack_38, rk_137, rg_137_33, rg_137_6, ra_141, rs_141, ra_158, rv_158, i1, i2, hge, gnk_i, gnk_r, gnk_n, gi_1, Nat.reduceLT, if_true, if_false]
    refine hi2 _ (by omega) (gCw_cg (gCw_si (a := 141) (i := i) hC (gCw_at hC (by omega))) (fun b j => by omega))
theorem m_put2 {s0 : gm_S} (hq : ∀ s', gCw s0 s' mSrc2 (fun b j => (b = 141 ∧ j < 6) ∨ (144 ≤ b ∧ b ≤ 147 ∧ j < 8)) → Q none (gm_m s')) : ∀ (n i : Nat) (s : gm_S), i + n = 8 → gCw s0 s mSrc2 (fun b j => (b = 141 ∧ j < 6) ∨ (144 ≤ b ∧ b ≤ 147 ∧ j < i)) → gc_X w d 157 43 [some (.ref 137), some (.int (nI i))] [] (gm_m s) Q := by
  intro n
  induction n with
  | zero =>
    intro i s hi hC
    have e : i = 8 := by omega
    subst e
    rw [E_X12_putBack_43]
    simp (decide := true) only [E_X12_putBack_44, E_X12_putBack_46, E_X12_putBack_103, if_true]
    exact hq s hC
  | succ n ih =>
    intro i s hi hC
    have i1 : vp_in (nI i) 8 := vp_in_nI (by omega) (by omega)
    have i2 : (nI i).toNatClampNeg = i := nI_clamp (by omega)
    have hge : ¬ (8 : Int32) ≤ nI i := nI_ge (b := 8) (by omega) (by omega)
    have hi2 := ih (i + 1)
    rw [nI_succ] at hi2
    rw [E_X12_putBack_43]
    simp only [E_X12_putBack_44, E_X12_putBack_46, E_X12_putBack_49, E_X12_putBack_50, E_X12_putBack_53, E_X12_putBack_54, E_X12_putBack_55, E_X12_putBack_58, E_X12_putBack_59, E_X12_putBack_60, E_X12_putBack_61, E_X12_putBack_62, E_X12_putBack_65, E_X12_putBack_66, E_X12_putBack_67, E_X12_putBack_70, E_X12_putBack_71, E_X12_putBack_72, E_X12_putBack_73, E_X12_putBack_74, E_X12_putBack_77, E_X12_putBack_78, E_X12_putBack_79, E_X12_putBack_82, E_X12_putBack_83, E_X12_putBack_84, E_X12_putBack_85, E_X12_putBack_86, E_X12_putBack_89, E_X12_putBack_90, E_X12_putBack_91, E_X12_putBack_94, E_X12_putBack_95, E_X12_putBack_96, E_X12_putBack_97, E_X12_putBack_100, E_X12_putBack_103, rk_137, rg_137_34, rg_137_35, rg_137_36, rg_137_37, rg_137_9, rg_137_10, rg_137_11, rg_137_12, ra_144, rs_144, ra_145, rs_145, ra_146, rs_146, ra_147, rs_147, ra_159, rv_159, ra_160, rv_160, ra_161, rv_161, ra_162, rv_162, i1, i2, hge, gsi_1, Nat.reduceEqDiff, false_and, gnk_i, gnk_r, gnk_n, gi_1, Nat.reduceLT, if_true, if_false]
    refine hi2 _ (by omega) (gCw_cg (gCw_si (a := 147) (i := i) (gCw_si (a := 146) (i := i) (gCw_si (a := 145) (i := i) (gCw_si (a := 144) (i := i) hC (gCw_at hC (by omega))) (gCw_at hC (by omega))) (gCw_at hC (by omega))) (gCw_at hC (by omega))) (fun b j => by omega))
/-- put back: the yard is as it was -/
theorem m_put {s0 : gm_S} (hk : gA_ok p) (hY : mY 9999 s0 o cs p) (hA : mA s0 s) (hK : mKp s0 s) (hq : ∀ s', mA s0 s' → mY 9999 s' o cs p → Q none (gm_m s')) : gc_X w d 157 0 [some (.ref 137), none] [] (gm_m s) Q := by
  have k1 := hk.1
  simp only [E_X12_putBack_0, E_X12_putBack_1, E_X12_putBack_4, E_X12_putBack_7, E_X12_putBack_8, E_X12_putBack_9, E_X12_putBack_12, E_X12_putBack_15, E_X12_putBack_16, rk_137, rg_137_32, rp_137_31, rp_137_2, gsi_1, Nat.reduceEqDiff, and_false, gnk_i, gnk_r, gnk_n, gi_1, Nat.reduceLT, if_true, if_false]
  rw [← nI_0]
  refine m_put1 (fun s1 l1 hC1 => ?_) 6 0 _ (by omega) (gCw_0 (fun b j q => by omega))
  simp only [E_X12_putBack_41, E_X12_putBack_42, gnk_i, gnk_r, gnk_n, gi_1, Nat.reduceLT, if_true, if_false]
  rw [← nI_0]
  refine m_put2 (fun s2 hC2 => ?_) 8 0 _ (by omega) (gCw_cg hC1 (fun b j => by omega))
  have at1 : ∀ b j, ¬ mAsk b j → s2.1 b j = s0.1 b j := by
    intro b j h1
    rw [← hA.2 b j h1]
    unfold mAsk at h1
    rw [gCw_at hC2 (by omega), gsi_1, if_neg (fun e => by omega), gsi_1, if_neg (fun e => by omega)]
  have at2 : ∀ b j, (b = 141 ∧ j < 6) ∨ (144 ≤ b ∧ b ≤ 147 ∧ j < 8) → s2.1 b j = s.1 (mSrc2 b) j := by
    intro b j h1
    rw [(hC2.2 b j).1 h1]
    have : mSrc2 b < 163 ∧ 157 < mSrc2 b := by unfold mSrc2; split <;> omega
    rw [gsi_1, if_neg (fun e => by omega), gsi_1, if_neg (fun e => by omega)]
  obtain ⟨q1, q2, q3⟩ := hK
  have e2 : s2.1 137 2 = s0.1 137 2 := by
    rw [gCw_at hC2 (by omega), gsi_1, if_pos ⟨rfl, rfl⟩]
    exact q1
  have e31 : s2.1 137 31 = 9999 := by rw [gCw_at hC2 (by omega), gsi_1, if_neg (fun e => by omega), gsi_1, if_pos ⟨rfl, rfl⟩]
  have e141 : ∀ c, c < 6 → s2.1 141 c = s0.1 141 c := fun c hc => (at2 141 c (by omega)).trans (q2 c hc)
  have e14 : ∀ b j, 144 ≤ b → b ≤ 147 → j < 8 → s2.1 b j = s0.1 b j := by
    intro b j h1 h2 h3
    have hb : b = 144 ∨ b = 145 ∨ b = 146 ∨ b = 147 := by omega
    obtain ⟨a1, a2, a3, a4⟩ := q3 j h3
    rcases hb with rfl | rfl | rfl | rfl
    · exact (at2 144 j (by omega)).trans a1
    · exact (at2 145 j (by omega)).trans a2
    · exact (at2 146 j (by omega)).trans a3
    · exact (at2 147 j (by omega)).trans a4
  obtain ⟨h1, h2, h3, h4, h5⟩ := hY
  refine hq s2 ⟨hC2.1.trans hA.1, at1⟩ ⟨mR_cg h1 hk (fun j hj => ?_) (fun b j hb => at1 _ _ (by unfold mAsk; omega)) e14, mFm_fr h2 (fun b j hb hb2 => at1 _ _ (by unfold mAsk; omega)) (at1 _ _ (by unfold mAsk; omega)), e31, fun c hc => by rw [e141 c (by omega)]; exact h4 c hc, h5⟩
  by_cases e : j = 2
  · rw [e]
    exact e2
  · exact at1 _ _ (by unfold mAsk; omega)
end
