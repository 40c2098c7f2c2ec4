/-! the hours of the reference -/
def gmin9 (x : Int32) : Int32 := if x < 9 then x else 9
/-- LIFTS: told exactly, or only as far as a power looks -/
def mL (K l l' : Int32) : Prop := (K = 9999 ∧ l = l') ∨ (K = 2000000000 ∧ gmin9 l = gmin9 l' ∧ 0 ≤ l ∧ l ≤ 2000000000)
/-- what hours keep -/
def gA_k2 (p : gA) : Prop := p.2.1 17 1 ≤ 99 ∧ (∀ t, t < p.1.2.2 → p.2.1 14 t = 1 → p.2.1 16 t ≤ 98) ∧ (∀ c, c < p.1.2.1 → 0 ≤ p.2.1 4 c ∧ p.2.1 4 c ≤ 9999)
theorem gx_lt {x y : Int32} : x < y ↔ x.toInt < y.toInt := Int32.lt_iff_toInt_lt
theorem gx_le {x y : Int32} : x ≤ y ↔ x.toInt ≤ y.toInt := Int32.le_iff_toInt_le
theorem gx_inc {x : Int32} (h : x.toInt < 2147483647) : (x + 1).toInt = x.toInt + 1 := by
  have h1 := Int32.le_toInt x
  have h2 := Int32.toInt_lt x
  rw [Int32.toInt_add]
  have e : (1 : Int32).toInt = 1 := by decide
  rw [e]
  apply Int.bmod_eq_of_le <;> omega
theorem gx_9 : (9 : Int32).toInt = 9 := by decide
theorem gx_0 : (0 : Int32).toInt = 0 := by decide
theorem gx_98 : (98 : Int32).toInt = 98 := by decide
theorem gx_99 : (99 : Int32).toInt = 99 := by decide
theorem gx_9999 : (9999 : Int32).toInt = 9999 := by decide
theorem gx_2g : (2000000000 : Int32).toInt = 2000000000 := by decide
theorem gx_inj {x y : Int32} (h : x.toInt = y.toInt) : x = y := Int32.toInt_inj.1 h
theorem gmin9_inc {x y : Int32} (h : gmin9 x = gmin9 y) (hx : 0 ≤ x) (hy : 0 ≤ y) (hx2 : x ≤ 2000000000) (hy2 : y ≤ 2000000000) : gmin9 (x + 1) = gmin9 (y + 1) := by
  rw [gx_le, gx_2g] at hx2 hy2
  rw [gx_le, gx_0] at hx hy
  have e1 := gx_inc (x := x) (by omega)
  have e2 := gx_inc (x := y) (by omega)
  unfold gmin9 at h ⊢
  simp only [gx_lt, gx_9, e1, e2] at h ⊢
  by_cases h1 : x.toInt < 9
  · by_cases h2 : y.toInt < 9
    · rw [if_pos h1, if_pos h2] at h
      rw [h]
    · rw [if_pos h1, if_neg h2] at h
      rw [h, gx_9] at h1
      exact absurd h1 (by omega)
  · by_cases h2 : y.toInt < 9
    · rw [if_neg h1, if_pos h2] at h
      rw [← h, gx_9] at h2
      exact absurd h2 (by omega)
    · rw [if_neg (by omega), if_neg (by omega)]
theorem gmin9_cap {x K : Int32} (hK : 9 ≤ K) : gmin9 (if x < K then x else K) = gmin9 x := by
  by_cases h : x < K
  · rw [if_pos h]
  · rw [if_neg h]
    rw [gx_lt] at h
    rw [gx_le, gx_9] at hK
    unfold gmin9
    rw [if_neg (by rw [gx_lt, gx_9]; omega), if_neg (by rw [gx_lt, gx_9]; omega)]
theorem mL_inc {K l l' : Int32} (h : mL K l l') (h0 : 0 ≤ l') (h9 : l' ≤ 9999) : mL K (if l + 1 < K then l + 1 else K) (if l' + 1 < 9999 then l' + 1 else 9999) := by
  rcases h with ⟨e, h⟩ | ⟨e, h, h1, h2⟩
  · subst e h
    exact Or.inl ⟨rfl, rfl⟩
  · subst e
    refine Or.inr ⟨rfl, ?_, ?_, ?_⟩
    · rw [gmin9_cap (by decide), gmin9_cap (by decide)]
      refine gmin9_inc h h1 h0 h2 ?_
      rw [gx_le, gx_9999] at h9
      rw [gx_le, gx_2g]
      omega
    · split
      · rw [gx_le, gx_0] at h1 ⊢
        rw [gx_le, gx_2g] at h2
        rw [gx_inc (by omega)]
        omega
      · decide
    · split
      · rename_i h3
        rw [gx_lt] at h3
        rw [gx_le]
        omega
      · decide
theorem mL_9 {K l l' : Int32} (h : mL K l l') : (if l < 9 then l else 9) = (if l' < 9 then l' else 9) := by
  rcases h with ⟨-, h⟩ | ⟨-, h, -⟩
  · rw [h]
  · exact h
/-- the reference's yard is p; its firm; how many lifts are told at most -/
def mY (K : Int32) (s : gm_S) (o : Option Nat) (cs : List fC) (p : gA) : Prop := mR s p ∧ mFm s o cs ∧ s.1 137 31 = K ∧ (∀ c, c < p.1.2.1 → mL K (s.1 141 c) (p.2.1 4 c)) ∧ (∀ fx, p.2.2 fx = fC_sum fx cs 30) ∧ p.2.1 17 0 = fC_last 2 cs 12 ∧ p.2.1 17 1 = fC_last 3 cs 2
/-- all but what hours write -/
def mG (s s' : gm_S) : Prop := s'.2 = s.2 ∧ ∀ b j, b ≠ 157 → b ≠ 141 → b ≠ 145 → b ≠ 146 → b ≠ 147 → ¬ (b = 137 ∧ j = 2) → s'.1 b j = s.1 b j
theorem mG_refl {s : gm_S} : mG s s := ⟨rfl, fun _ _ _ _ _ _ _ _ => rfl⟩
theorem mG_trans {s s' s2 : gm_S} (h : mG s s') (h2 : mG s' s2) : mG s s2 := ⟨h2.1.trans h.1, fun b j a1 a2 a3 a4 a5 a6 => (h2.2 b j a1 a2 a3 a4 a5 a6).trans (h.2 b j a1 a2 a3 a4 a5 a6)⟩
theorem mG_fr {s s' : gm_S} (h : mFr s s') : mG s s' := ⟨h.1, fun b j a1 _ _ _ _ _ => h.2 b j a1⟩
theorem mG_si {s s' : gm_S} {a k : Nat} {x : Int32} (h : mG s s') (ha : a = 141 ∨ a = 145 ∨ a = 146 ∨ a = 147 ∨ (a = 137 ∧ k = 2)) : mG s (gm_si s' a k x) := by
  refine ⟨by rw [gsi_2]; exact h.1, fun b j a1 a2 a3 a4 a5 a6 => ?_⟩
  rw [gsi_1, if_neg (fun e => by omega)]
  exact h.2 b j a1 a2 a3 a4 a5 a6
theorem mY_fr {K : Int32} {s s' : gm_S} {o : Option Nat} {cs : List fC} {p : gA} (h : mY K s o cs p) (hf : mFr s s') : mY K s' o cs p := by
  obtain ⟨h1, h2, h3, h4, h5⟩ := h
  exact ⟨mR_fr h1 hf, mFm_fr h2 (fun b j hb hb2 => hf.2 b j (by omega)) (hf.2 _ _ (by decide)), (hf.2 137 31 (by decide)).trans h3, fun c hc => by rw [hf.2 141 c (by decide)]; exact h4 c hc, h5⟩
/-- a number of a thing written -/
theorem mY_set {K : Int32} {s : gm_S} {o : Option Nat} {cs : List fC} {p : gA} {i t : Nat} {x : Int32} (h : mY K s o cs p) (hk : p.1.2.1 ≤ 6) (hi : i = 12 ∨ i = 14 ∨ i = 15 ∨ i = 16) : mY K (gm_si s (131 + i) t x) o cs (gA_set p i t x) := by
  obtain ⟨h1, h2, h3, h4, h5, h6, h7⟩ := h
  refine ⟨mR_set h1 hk hi, mFm_fr h2 (fun b j hb hb2 => by rw [gsi_1, if_neg (fun e => by omega)]) (by rw [gsi_1, if_neg (fun e => by omega)]), ?_, fun c hc => ?_, h5, ?_, ?_⟩
  · rw [gsi_1, if_neg (fun e => by omega)]
    exact h3
  · rw [gsi_1, if_neg (fun e => by omega), gA_set_at, if_neg (fun e => by omega)]
    exact h4 c hc
  · rw [gA_set_at, if_neg (fun e => by omega)]
    exact h6
  · rw [gA_set_at, if_neg (fun e => by omega)]
    exact h7
theorem mY_lift {K : Int32} {s : gm_S} {o : Option Nat} {cs : List fC} {p : gA} {c : Nat} {x y : Int32} (h : mY K s o cs p) (hk : p.1.2.1 ≤ 6) (hx : mL K x y) : mY K (gm_si s 141 c x) o cs (gA_set p 4 c y) := by
  obtain ⟨h1, h2, h3, h4, h5, h6, h7⟩ := h
  obtain ⟨r1, r2, r3, r4, r5, r6⟩ := h1
  refine ⟨⟨?_, ?_, ?_, fun k hk => ?_, fun c hc => ⟨?_, ?_, fun k hk => ?_⟩, fun u hu => ⟨?_, ?_, ?_, ?_, ?_⟩⟩, mFm_fr h2 (fun b j hb hb2 => by rw [gsi_1, if_neg (fun e => by omega)]) (by rw [gsi_1, if_neg (fun e => by omega)]), ?_, fun c' hc => ?_, h5, ?_, ?_⟩
  · rw [gsi_1, if_neg (fun e => by omega)]
    exact r1
  · rw [gsi_1, if_neg (fun e => by omega)]
    exact r2
  · rw [gsi_1, if_neg (fun e => by omega)]
    exact r3
  · rw [gsi_1, if_neg (fun e => by omega), gA_set_at, if_neg (fun e => by omega)]
    exact r4 k hk
  · rw [gsi_1, if_neg (fun e => by omega), gA_set_at, if_neg (fun e => by omega)]
    exact (r5 c hc).1
  · rw [gsi_1, if_neg (fun e => by omega), gA_set_at, if_neg (fun e => by omega)]
    exact (r5 c hc).2.1
  · have hc' : c < p.1.2.1 := hc
    rw [gsi_1, if_neg (fun e => by omega), gA_set_at, if_neg (fun e => by omega)]
    exact (r5 c hc).2.2 k hk
  · rw [gsi_1, if_neg (fun e => by omega), gA_set_at, if_neg (fun e => by omega)]
    exact (r6 u hu).1
  · rw [gsi_1, if_neg (fun e => by omega), gA_set_at, if_neg (fun e => by omega)]
    exact (r6 u hu).2.1
  · rw [gsi_1, if_neg (fun e => by omega), gA_set_at, if_neg (fun e => by omega)]
    exact (r6 u hu).2.2.1
  · rw [gsi_1, if_neg (fun e => by omega), gA_set_at, if_neg (fun e => by omega)]
    exact (r6 u hu).2.2.2.1
  · rw [gsi_1, if_neg (fun e => by omega), gA_set_at, if_neg (fun e => by omega)]
    exact (r6 u hu).2.2.2.2
  · rw [gsi_1, if_neg (fun e => by omega)]
    exact h3
  · rw [gsi_1, gA_set_at]
    by_cases e : c' = c
    · rw [if_pos ⟨rfl, e⟩, if_pos ⟨rfl, e⟩]
      exact hx
    · rw [if_neg (fun q => e q.2), if_neg (fun q => e q.2)]
      exact h4 c' hc
  · rw [gA_set_at, if_neg (fun e => by omega)]
    exact h6
  · rw [gA_set_at, if_neg (fun e => by omega)]
    exact h7
section
variable {w : Nat × (Nat → Int32)} {d c t : Nat} {s : gm_S} {p : gA} {Q : Option Value → gc_M → Prop} {cs : List fC} {o : Option Nat} {K : Int32}
theorem m_land (hY : mY K s o cs p) (hk : gA_ok p) (hcs : fCs cs) (hc : c < p.1.2.1) (ht : t < p.1.2.2) (h0 : 0 ≤ p.2.1 4 c) (h9 : p.2.1 4 c ≤ 9999) (hq : ∀ s', mG s s' → mY K s' o cs (gA_land p c t) → Q none (gm_m s')) : gc_X w (d + 3) 151 43 [some (.ref 137), some (.int (nI c)), some (.int (nI t))] [] (gm_m s) Q := by
  have hk1 := hk.1
  have hk2 := hk.2.1
  have hY0 := hY
  obtain ⟨hR, ho, hK, hL, -, hb, hh⟩ := hY
  have i1 : vp_in (nI c) 6 := vp_in_nI (by omega) (by omega)
  have i2 : (nI c).toNatClampNeg = c := nI_clamp (by omega)
  have i3 : vp_in (nI t) 8 := vp_in_nI (by omega) (by omega)
  have i4 : (nI t).toNatClampNeg = t := nI_clamp (by omega)
  obtain ⟨-, -, -, a15, a16⟩ := hR.2.2.2.2.2 t ht
  have hbe := fun (Q : Option Value → gc_M → Prop) => m_bear2 (w := w) (d := d) (Q := Q) ho hcs
  have hha := fun (Q : Option Value → gc_M → Prop) => m_hang2 (w := w) (d := d) (Q := Q) ho hcs
  unfold gA_land at hq
  rw [hb, hh] at hq
  by_cases q1 : p.2.1 15 t ≤ fC_last 2 cs 12
  · rw [if_pos q1] at hq
    by_cases q2 : p.2.1 16 t < fC_last 3 cs 2
    · rw [if_pos q2] at hq
      simp only [E_X12_swings_0, E_X12_swings_1, E_X12_swings_4, E_X12_swings_5, E_X12_swings_6, E_X12_swings_7, E_X12_swings_10, E_X12_swings_11, E_X12_swings_12, E_X12_swings_13, E_X12_swings_16, E_X12_swings_17, E_X12_swings_19, E_X12_swings_22, E_X12_swings_23, E_X12_swings_24, E_X12_swings_27, E_X12_swings_28, E_X12_swings_29, E_X12_swings_30, E_X12_swings_33, E_X12_swings_34, E_X12_swings_35, E_X12_swings_36, E_X12_swings_37, E_X12_swings_39, E_X12_swings_42, E_X12_swings_43, E_X12_swings_44, E_X12_swings_47, E_X12_swings_48, E_X12_swings_49, E_X12_swings_50, E_X12_swings_53, E_X12_swings_56, E_X12_swings_57, E_X12_swings_60, E_X12_swings_61, E_X12_swings_62, E_X12_swings_63, E_X12_swings_66, E_X12_swings_67, E_X12_swings_70, E_X12_swings_71, E_X12_swings_72, E_X12_swings_73, E_X12_swings_76, E_X12_swings_79, E_X12_swings_80, E_X12_swings_83, E_X12_swings_84, E_X12_swings_85, E_X12_swings_86, E_X12_swings_87, E_X12_swings_90, E_X12_swings_91, E_X12_swings_92, E_X12_swings_93, E_X12_swings_96, E_X12_swings_97, E_X12_swings_98, E_X12_swings_99, E_X12_swings_100, E_X12_swings_101, E_X12_swings_104, E_X12_swings_107, E_X12_swings_108, rk_137, rc_137, rg_137_11, rg_137_12, ra_146, rv_146, ra_147, rv_147, i3, i4, a15, a16, hbe, hha, q1, q2, List.map_nil, List.map_cons, List.sum_cons, List.sum_nil, gcat_i, gcat_r, gcat_l, Nat.reduceAdd, Nat.reduceLeDiff, Nat.zero_le, Option.toList, List.cons_append, List.nil_append, gnk_i, gnk_r, gnk_n, gi_1, Nat.reduceLT, if_true, if_false]
      exact hq s mG_refl hY0
    · rw [if_neg q2] at hq
      have hL2 := mL_inc (hL c hc) h0 h9
      simp only [E_X12_swings_0, E_X12_swings_1, E_X12_swings_4, E_X12_swings_5, E_X12_swings_6, E_X12_swings_7, E_X12_swings_10, E_X12_swings_11, E_X12_swings_12, E_X12_swings_13, E_X12_swings_16, E_X12_swings_17, E_X12_swings_19, E_X12_swings_22, E_X12_swings_23, E_X12_swings_24, E_X12_swings_27, E_X12_swings_28, E_X12_swings_29, E_X12_swings_30, E_X12_swings_33, E_X12_swings_34, E_X12_swings_35, E_X12_swings_36, E_X12_swings_37, E_X12_swings_39, E_X12_swings_42, E_X12_swings_43, E_X12_swings_44, E_X12_swings_47, E_X12_swings_48, E_X12_swings_49, E_X12_swings_50, E_X12_swings_53, E_X12_swings_56, E_X12_swings_57, E_X12_swings_60, E_X12_swings_61, E_X12_swings_62, E_X12_swings_63, E_X12_swings_66, E_X12_swings_67, E_X12_swings_70, E_X12_swings_71, E_X12_swings_72, E_X12_swings_73, E_X12_swings_76, E_X12_swings_79, E_X12_swings_80, E_X12_swings_83, E_X12_swings_84, E_X12_swings_85, E_X12_swings_86, E_X12_swings_87, E_X12_swings_90, E_X12_swings_91, E_X12_swings_92, E_X12_swings_93, E_X12_swings_96, E_X12_swings_97, E_X12_swings_98, E_X12_swings_99, E_X12_swings_100, E_X12_swings_101, E_X12_swings_104, E_X12_swings_107, E_X12_swings_108, rk_137, rc_137, rg_137_6, rg_137_10, rg_137_11, rg_137_12, rg_137_31, ra_141, rv_141, rs_141, ra_145, rs_145, ra_146, rv_146, ra_147, rv_147, i1, i2, i3, i4, a15, a16, hbe, hha, q1, q2, m_least, gsi_1, hK, Nat.reduceEqDiff, false_and, List.map_nil, List.map_cons, List.sum_cons, List.sum_nil, gcat_i, gcat_r, gcat_l, Nat.reduceAdd, Nat.reduceLeDiff, Nat.zero_le, Option.toList, List.cons_append, List.nil_append, gnk_i, gnk_r, gnk_n, gi_1, Nat.reduceLT, if_true, if_false]
      exact hq _ (mG_si (mG_si mG_refl (by omega)) (by omega)) (mY_lift (mY_set (i := 14) hY0 hk1 (by decide)) hk1 hL2)
  · rw [if_neg q1] at hq
    simp only [E_X12_swings_0, E_X12_swings_1, E_X12_swings_4, E_X12_swings_5, E_X12_swings_6, E_X12_swings_7, E_X12_swings_10, E_X12_swings_11, E_X12_swings_12, E_X12_swings_13, E_X12_swings_16, E_X12_swings_17, E_X12_swings_19, E_X12_swings_22, E_X12_swings_23, E_X12_swings_24, E_X12_swings_27, E_X12_swings_28, E_X12_swings_29, E_X12_swings_30, E_X12_swings_33, E_X12_swings_34, E_X12_swings_35, E_X12_swings_36, E_X12_swings_37, E_X12_swings_39, E_X12_swings_42, E_X12_swings_43, E_X12_swings_44, E_X12_swings_47, E_X12_swings_48, E_X12_swings_49, E_X12_swings_50, E_X12_swings_53, E_X12_swings_56, E_X12_swings_57, E_X12_swings_60, E_X12_swings_61, E_X12_swings_62, E_X12_swings_63, E_X12_swings_66, E_X12_swings_67, E_X12_swings_70, E_X12_swings_71, E_X12_swings_72, E_X12_swings_73, E_X12_swings_76, E_X12_swings_79, E_X12_swings_80, E_X12_swings_83, E_X12_swings_84, E_X12_swings_85, E_X12_swings_86, E_X12_swings_87, E_X12_swings_90, E_X12_swings_91, E_X12_swings_92, E_X12_swings_93, E_X12_swings_96, E_X12_swings_97, E_X12_swings_98, E_X12_swings_99, E_X12_swings_100, E_X12_swings_101, E_X12_swings_104, E_X12_swings_107, E_X12_swings_108, rk_137, rc_137, rg_137_10, rg_137_11, ra_145, rs_145, ra_146, rv_146, i3, i4, a15, hbe, q1, List.map_nil, List.map_cons, List.sum_cons, List.sum_nil, gcat_i, gcat_r, gcat_l, Nat.reduceAdd, Nat.reduceLeDiff, Nat.zero_le, Option.toList, List.cons_append, List.nil_append, gnk_i, gnk_r, gnk_n, gi_1, Nat.reduceLT, if_true, if_false]
    exact hq _ (mG_si mG_refl (by omega)) (mY_set (i := 14) hY0 hk1 (by decide))
theorem m_swings (hY : mY K s o cs p) (hk : gA_ok p) (hk2 : gA_k2 p) (hcs : fCs cs) (hc : c < p.1.2.1) (ht : t < p.1.2.2) (h1 : p.2.1 14 t = 1) (hq : ∀ s', mG s s' → mY K s' o cs (gA_swing p c t) → Q none (gm_m s')) : gc_X w (d + 3) 151 0 [some (.ref 137), some (.int (nI c)), some (.int (nI t))] [] (gm_m s) Q := by
  have hk1 := hk.1
  have hk8 := hk.2.1
  have hR := hY.1
  have i3 : vp_in (nI t) 8 := vp_in_nI (by omega) (by omega)
  have i4 : (nI t).toNatClampNeg = t := nI_clamp (by omega)
  obtain ⟨-, -, -, a15, a16⟩ := hR.2.2.2.2.2 t ht
  have hbl := fun (Q : Option Value → gc_M → Prop) => m_blows (w := w) (d := d + 2) (Q := Q) hR hk
  have h98 := hk2.2.1 t ht h1
  have et : (if p.2.1 16 t + 1 < 99 then p.2.1 16 t + 1 else 99) = p.2.1 16 t + 1 := by
    rw [gx_le, gx_98] at h98
    by_cases e : p.2.1 16 t + 1 < 99
    · rw [if_pos e]
    · rw [if_neg e]
      rw [gx_lt, gx_99, gx_inc (by omega)] at e
      apply gx_inj
      rw [gx_99, gx_inc (by omega)]
      omega
  have e : gc_X w (d + 3) 151 0 [some (.ref 137), some (.int (nI c)), some (.int (nI t))] [] (gm_m s) Q = gc_X w (d + 3) 151 43 [some (.ref 137), some (.int (nI c)), some (.int (nI t))] [] (gm_m (gm_si (gm_si s 146 t (gA_sw p t)) 147 t (p.2.1 16 t + 1))) Q := by
    simp only [E_X12_swings_0, E_X12_swings_1, E_X12_swings_4, E_X12_swings_5, E_X12_swings_6, E_X12_swings_7, E_X12_swings_10, E_X12_swings_11, E_X12_swings_12, E_X12_swings_13, E_X12_swings_16, E_X12_swings_17, E_X12_swings_19, E_X12_swings_22, E_X12_swings_23, E_X12_swings_24, E_X12_swings_27, E_X12_swings_28, E_X12_swings_29, E_X12_swings_30, E_X12_swings_33, E_X12_swings_34, E_X12_swings_35, E_X12_swings_36, E_X12_swings_37, E_X12_swings_39, E_X12_swings_42, E_X12_swings_44, E_X12_swings_47, E_X12_swings_48, E_X12_swings_49, E_X12_swings_50, E_X12_swings_53, E_X12_swings_56, E_X12_swings_57, E_X12_swings_60, E_X12_swings_61, E_X12_swings_62, E_X12_swings_63, E_X12_swings_66, E_X12_swings_67, E_X12_swings_70, E_X12_swings_71, E_X12_swings_72, E_X12_swings_73, E_X12_swings_76, E_X12_swings_79, E_X12_swings_80, E_X12_swings_83, E_X12_swings_84, E_X12_swings_85, E_X12_swings_86, E_X12_swings_87, E_X12_swings_90, E_X12_swings_91, E_X12_swings_92, E_X12_swings_93, E_X12_swings_96, E_X12_swings_97, E_X12_swings_98, E_X12_swings_99, E_X12_swings_100, E_X12_swings_101, E_X12_swings_104, E_X12_swings_107, E_X12_swings_108, rk_137, rc_137, rg_137_11, rg_137_12, ra_146, rv_146, rs_146, ra_147, rv_147, rs_147, i3, i4, a15, a16, hbl, m_least, et, gsi_1, Nat.reduceEqDiff, false_and, gA_sw, List.map_nil, List.map_cons, List.sum_cons, List.sum_nil, gcat_i, gcat_r, gcat_l, Nat.reduceAdd, Nat.reduceLeDiff, Nat.zero_le, Option.toList, List.cons_append, List.nil_append, gnk_i, gnk_r, gnk_n, gi_1, Nat.reduceLT, if_true, if_false]
  rw [e]
  have hl := hk2.2.2 c hc
  refine m_land (mY_set (i := 16) (mY_set (i := 15) hY hk1 (by decide)) hk1 (by decide)) (gA_ok_set (gA_ok_set hk (by decide)) (by decide)) hcs hc ht ?_ ?_ (fun s' hf hY' => hq s' (mG_trans (mG_si (mG_si mG_refl (by omega)) (by omega)) hf) hY')
  · rw [gA_set_at, if_neg (fun e => by omega), gA_set_at, if_neg (fun e => by omega)]
    exact hl.1
  · rw [gA_set_at, if_neg (fun e => by omega), gA_set_at, if_neg (fun e => by omega)]
    exact hl.2
theorem m_hang_loop (hk : gA_ok p) (hcs : fCs cs) (hc : c < p.1.2.1) : ∀ (n t : Nat) (s : gm_S), t + n = p.1.2.2 → mY K s o cs p → (∀ s', mG s s' → mY K s' o cs (gA_hangN p c n t) → Q none (gm_m s')) → gc_X w (d + 4) 152 2 [some (.ref 137), some (.int (nI c)), some (.int (nI t))] [] (gm_m s) Q := by
  intro n
  have hk1 := hk.1
  have hk2 := hk.2.1
  induction n with
  | zero =>
    intro t s ht hY hq
    have h9 := hY.1.2.1
    have e : p.1.2.2 = t := by omega
    rw [e] at h9
    rw [E_X12_hangs_2]
    simp only [E_X12_hangs_0, E_X12_hangs_1, E_X12_hangs_3, E_X12_hangs_4, E_X12_hangs_7, E_X12_hangs_10, E_X12_hangs_11, E_X12_hangs_14, E_X12_hangs_15, E_X12_hangs_16, E_X12_hangs_19, E_X12_hangs_20, E_X12_hangs_23, E_X12_hangs_24, E_X12_hangs_25, E_X12_hangs_26, E_X12_hangs_29, E_X12_hangs_30, E_X12_hangs_31, E_X12_hangs_32, E_X12_hangs_35, E_X12_hangs_36, E_X12_hangs_39, E_X12_hangs_40, E_X12_hangs_41, E_X12_hangs_44, E_X12_hangs_47, E_X12_hangs_48, E_X12_hangs_51, E_X12_hangs_52, E_X12_hangs_53, E_X12_hangs_54, E_X12_hangs_55, E_X12_hangs_58, E_X12_hangs_59, E_X12_hangs_60, E_X12_hangs_61, E_X12_hangs_62, E_X12_hangs_65, E_X12_hangs_66, E_X12_hangs_67, E_X12_hangs_68, E_X12_hangs_69, E_X12_hangs_72, E_X12_hangs_75, rk_137, rg_137_1, h9, nI_le (Nat.le_refl t) (by omega : t < 2 ^ 31), gnk_i, gnk_r, gnk_n, gi_1, Nat.reduceLT, if_true, if_false]
    exact hq s mG_refl hY
  | succ n ih =>
    intro t s ht hY hq
    have h9 := hY.1.2.1
    have htl : t < p.1.2.2 := by omega
    obtain ⟨a12, a13, a14, -, -⟩ := hY.1.2.2.2.2.2 t htl
    have i1 : vp_in (nI t) 8 := vp_in_nI (by omega) (by omega)
    have i2 : (nI t).toNatClampNeg = t := nI_clamp (by omega)
    have hge : ¬ nI p.1.2.2 ≤ nI t := nI_ge (by omega) (by omega)
    have hm : (mS (p.2.1 13 t) = nI c) = (p.2.1 13 t = nI c) := mS_nI (by omega)
    have hms : (mS (nI c) = nI c) = True := (mS_nI (by omega)).trans (eq_self _)
    have hi := ih (t + 1)
    rw [nI_succ] at hi
    rw [gA_hangN] at hq
    rw [E_X12_hangs_2]
    by_cases h0 : p.2.1 14 t = 0
    · by_cases h1 : p.2.1 13 t = nI c
      · simp only [E_X12_hangs_3, E_X12_hangs_4, E_X12_hangs_7, E_X12_hangs_10, E_X12_hangs_11, E_X12_hangs_14, E_X12_hangs_15, E_X12_hangs_16, E_X12_hangs_19, E_X12_hangs_20, E_X12_hangs_23, E_X12_hangs_24, E_X12_hangs_25, E_X12_hangs_26, E_X12_hangs_29, E_X12_hangs_30, E_X12_hangs_31, E_X12_hangs_32, rk_137, rc_137, rg_137_1, rg_137_9, rg_137_10, h9, hge, ra_144, rv_144, ra_145, rv_145, i1, i2, a13, a14, hms, h0, h1, List.map_nil, List.map_cons, List.sum_cons, List.sum_nil, gcat_i, gcat_r, gcat_l, Nat.reduceAdd, Nat.reduceLeDiff, Nat.zero_le, Option.toList, List.cons_append, List.nil_append, gnk_i, gnk_r, gnk_n, gi_1, Nat.reduceLT, if_true, if_false]
        refine m_power hY.1 hk hY.2.1 hcs hY.2.2.2.2.1 hc htl (mL_9 (hY.2.2.2.1 c hc)) (fun s' hfr => ?_)
        have hY' := mY_fr hY hfr
        obtain ⟨a12', -⟩ := hY'.1.2.2.2.2.2 t htl
        by_cases hle : p.2.1 12 t ≤ gA_pow p c t
        · rw [if_pos ⟨h0, h1, hle⟩] at hq
          simp only [List.map_nil, List.map_cons, List.sum_cons, List.sum_nil, gcat_i, gcat_r, gcat_l, Nat.reduceAdd, Nat.reduceLeDiff, Nat.zero_le, Option.toList, List.cons_append, List.nil_append, E_X12_hangs_35, E_X12_hangs_36, E_X12_hangs_39, E_X12_hangs_40, E_X12_hangs_41, E_X12_hangs_47, E_X12_hangs_48, E_X12_hangs_51, E_X12_hangs_52, E_X12_hangs_53, E_X12_hangs_54, E_X12_hangs_55, E_X12_hangs_58, E_X12_hangs_59, E_X12_hangs_60, E_X12_hangs_61, E_X12_hangs_62, E_X12_hangs_65, E_X12_hangs_66, E_X12_hangs_67, E_X12_hangs_68, rk_137, rg_137_8, rg_137_10, rg_137_11, rg_137_12, ra_143, rv_143, ra_145, rs_145, ra_146, rs_146, ra_147, rs_147, i1, i2, a12', hle, gnk_i, gnk_r, gnk_n, gi_1, Nat.reduceLT, if_true, if_false]
          exact hq _ (mG_trans (mG_fr hfr) (mG_si (mG_si (mG_si mG_refl (by omega)) (by omega)) (by omega))) (mY_set (i := 16) (mY_set (i := 15) (mY_set (i := 14) hY' hk1 (by decide)) hk1 (by decide)) hk1 (by decide))
        · rw [if_neg (fun e => hle e.2.2)] at hq
          simp only [List.map_nil, List.map_cons, List.sum_cons, List.sum_nil, gcat_i, gcat_r, gcat_l, Nat.reduceAdd, Nat.reduceLeDiff, Nat.zero_le, Option.toList, List.cons_append, List.nil_append, E_X12_hangs_35, E_X12_hangs_36, E_X12_hangs_39, E_X12_hangs_40, E_X12_hangs_41, E_X12_hangs_44, E_X12_hangs_69, E_X12_hangs_72, rk_137, rg_137_8, ra_143, rv_143, i1, i2, a12', hle, gnk_i, gnk_r, gnk_n, gi_1, Nat.reduceLT, if_true, if_false]
          exact hi s' (by omega) hY' (fun s2 hf2 hY2 => hq s2 (mG_trans (mG_fr hfr) hf2) hY2)
      · rw [if_neg (fun e => h1 e.2.1)] at hq
        simp only [E_X12_hangs_0, E_X12_hangs_1, E_X12_hangs_3, E_X12_hangs_4, E_X12_hangs_7, E_X12_hangs_10, E_X12_hangs_11, E_X12_hangs_14, E_X12_hangs_15, E_X12_hangs_16, E_X12_hangs_19, E_X12_hangs_20, E_X12_hangs_23, E_X12_hangs_24, E_X12_hangs_25, E_X12_hangs_26, E_X12_hangs_29, E_X12_hangs_30, E_X12_hangs_31, E_X12_hangs_32, E_X12_hangs_35, E_X12_hangs_36, E_X12_hangs_39, E_X12_hangs_40, E_X12_hangs_41, E_X12_hangs_44, E_X12_hangs_47, E_X12_hangs_48, E_X12_hangs_51, E_X12_hangs_52, E_X12_hangs_53, E_X12_hangs_54, E_X12_hangs_55, E_X12_hangs_58, E_X12_hangs_59, E_X12_hangs_60, E_X12_hangs_61, E_X12_hangs_62, E_X12_hangs_65, E_X12_hangs_66, E_X12_hangs_67, E_X12_hangs_68, E_X12_hangs_69, E_X12_hangs_72, E_X12_hangs_75, rk_137, rc_137, rg_137_1, rg_137_9, rg_137_10, h9, hge, ra_144, rv_144, ra_145, rv_145, i1, i2, a13, a14, hm, h0, h1, List.map_nil, List.map_cons, List.sum_cons, List.sum_nil, gcat_i, gcat_r, gcat_l, Nat.reduceAdd, Nat.reduceLeDiff, Nat.zero_le, Option.toList, List.cons_append, List.nil_append, gnk_i, gnk_r, gnk_n, gi_1, Nat.reduceLT, if_true, if_false]
        exact hi s (by omega) hY hq
    · rw [if_neg (fun e => h0 e.1)] at hq
      simp only [E_X12_hangs_0, E_X12_hangs_1, E_X12_hangs_3, E_X12_hangs_4, E_X12_hangs_7, E_X12_hangs_10, E_X12_hangs_11, E_X12_hangs_14, E_X12_hangs_15, E_X12_hangs_16, E_X12_hangs_19, E_X12_hangs_20, E_X12_hangs_23, E_X12_hangs_24, E_X12_hangs_25, E_X12_hangs_26, E_X12_hangs_29, E_X12_hangs_30, E_X12_hangs_31, E_X12_hangs_32, E_X12_hangs_35, E_X12_hangs_36, E_X12_hangs_39, E_X12_hangs_40, E_X12_hangs_41, E_X12_hangs_44, E_X12_hangs_47, E_X12_hangs_48, E_X12_hangs_51, E_X12_hangs_52, E_X12_hangs_53, E_X12_hangs_54, E_X12_hangs_55, E_X12_hangs_58, E_X12_hangs_59, E_X12_hangs_60, E_X12_hangs_61, E_X12_hangs_62, E_X12_hangs_65, E_X12_hangs_66, E_X12_hangs_67, E_X12_hangs_68, E_X12_hangs_69, E_X12_hangs_72, E_X12_hangs_75, rk_137, rg_137_1, rg_137_10, h9, hge, ra_145, rv_145, i1, i2, a14, h0, gnk_i, gnk_r, gnk_n, gi_1, Nat.reduceLT, if_true, if_false]
      exact hi s (by omega) hY hq
theorem m_hang1 (hY : mY K s o cs p) (hk : gA_ok p) (hcs : fCs cs) (hc : c < p.1.2.1) (hq : ∀ s', mG s s' → mY K s' o cs (gA_hang p c) → Q none (gm_m s')) : gc_X w (d + 4) 152 0 [some (.ref 137), some (.int (nI c)), none] [] (gm_m s) Q := by
  have h := m_hang_loop (w := w) (d := d) (Q := Q) hk hcs hc p.1.2.2 0 s (by omega) hY hq
  rw [nI_0] at h
  simp only [E_X12_hangs_0, E_X12_hangs_1, gnk_i, gnk_r, gnk_n, gi_1, Nat.reduceLT, if_true, if_false]
  exact h
end
