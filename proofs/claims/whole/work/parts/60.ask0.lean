/-! what is asked of the reference: on, down, sent -/
theorem gB_in_ex {x : Int32} {k : Nat} (h : gB_in x 0 (nI k) = true) (hk : k < 2 ^ 31) : ∃ j, j ≤ k ∧ x = nI j := by
  unfold gB_in at h
  simp only [Bool.and_eq_true, Bool.not_eq_true', decide_eq_false_iff_not] at h
  obtain ⟨h1, h2⟩ := h
  obtain ⟨j, hj, e⟩ := nI_of h1
  subst e
  exact ⟨j, by
    have := mt (nI_ltI hk hj).mpr h2
    omega, rfl⟩
theorem gB_in_nI {j k : Nat} (h : j ≤ k) (hk : k < 2 ^ 31) : gB_in (nI j) 0 (nI k) = true := by
  unfold gB_in
  have h1 : ¬ nI j < 0 := nI_pos (by omega)
  have h2 : ¬ nI k < nI j := nI_nlt h hk
  simp only [h1, h2, decide_false, Bool.not_false, Bool.and_self]
theorem gB_ab {x : Int32} {a b : Nat} (ha : a < 2 ^ 31) (hb : b < 2 ^ 31) : gB_in x (nI a) (nI b) = true ↔ ∃ c, a ≤ c ∧ c ≤ b ∧ x = nI c := by
  unfold gB_in
  simp only [Bool.and_eq_true, Bool.not_eq_true', decide_eq_false_iff_not]
  constructor
  · rintro ⟨h1, h2⟩
    rw [gx_lt, nI_toInt ha] at h1
    rw [gx_lt, nI_toInt hb] at h2
    refine ⟨x.toInt.toNat, by omega, by omega, gx_inj ?_⟩
    rw [nI_toInt (by omega)]
    omega
  · rintro ⟨c, h1, h2, e⟩
    subst e
    exact ⟨nI_nlt h1 (by omega), nI_nlt h2 hb⟩
theorem gA_of_iff {n : Nat} {x : Int32} (hn : n < 2 ^ 31) : gA_of n x = true ↔ ∃ c, c < n ∧ x = nI c := ⟨fun h => gA_of_ex h hn, fun ⟨c, h, e⟩ => by rw [e]; exact gA_of_nI h hn⟩
theorem gB_sh {x : Int32} {a n : Nat} (hn : n ≤ 8) (ha : a < 100) : gB_in x (nI (a + 1)) (nI a + nI n) = gA_of n (x - nI (a + 1)) := by
  rw [nI_add, Bool.eq_iff_iff, gB_ab (by omega) (by omega), gA_of_iff (by omega)]
  constructor
  · rintro ⟨c, h1, h2, e⟩
    refine ⟨c - (a + 1), by omega, ?_⟩
    rw [e, gI_sub h1]
  · rintro ⟨c, h1, e⟩
    refine ⟨a + 1 + c, by omega, by omega, ?_⟩
    rw [← nI_add, Int32.add_comm, ← e, Int32.sub_add_cancel]
theorem gB_10 {x : Int32} {n : Nat} (hn : n ≤ 8) : gB_in x 10 (9 + nI n) = gA_of n (x - 10) := gB_sh (a := 9) hn (by omega)
theorem gB_20 {x : Int32} {n : Nat} (hn : n ≤ 8) : gB_in x 20 (19 + nI n) = gA_of n (x - 20) := gB_sh (a := 19) hn (by omega)
theorem gx_off {x : Int32} {a c : Nat} (h : x - nI a = nI c) : x = nI (a + c) := by rw [← nI_add, Int32.add_comm, ← h, Int32.sub_add_cancel]
/-- the reference as it stands between calls -/
def mYY (s : gm_S) (o : Option Nat) (cs : List fC) (p : gA) : Prop := mY 9999 s o cs p ∧ gA_ok p ∧ gA_k2 p ∧ fCs cs ∧ p.1.1 ≤ 9999
theorem mYY_of {s s' : gm_S} {o : Option Nat} {cs : List fC} {p : gA} (h : mYY s o cs p) (h' : mY 9999 s' o cs p) : mYY s' o cs p := ⟨h', h.2⟩
/-- a thing for which another crane is sent -/
theorem mY_sent {K : Int32} {s : gm_S} {o : Option Nat} {cs : List fC} {p : gA} {t : Nat} {x : Int32} (h : mY K s o cs p) (hk : gA_ok p) : mY K (gm_si s 144 t (mS x)) o cs (gA_set p 13 t x) := by
  have k1 := hk.1
  obtain ⟨h1, h2, h3, h4, h5, h6, h7⟩ := h
  obtain ⟨r1, r2, r3, r4, r5, r6⟩ := h1
  refine ⟨⟨?_, ?_, ?_, fun k hk => ?_, fun c hc => ⟨?_, ?_, fun k hk => ?_⟩, fun u hu => ⟨?_, ?_, ?_, ?_, ?_⟩⟩, mFm_fr h2 (fun b j hb hb2 => by rw [gsi_1, if_neg (fun e => by omega)]) (by rw [gsi_1, if_neg (fun e => by omega)]), ?_, fun c' hc => ?_, h5, ?_, ?_⟩
  · rw [gsi_1, if_neg (fun e => by omega)]
    exact r1
  · rw [gsi_1, if_neg (fun e => by omega)]
    exact r2
  · rw [gsi_1, if_neg (fun e => by omega)]
    exact r3
  · rw [gsi_1, if_neg (fun e => by omega), gA_set_at, if_neg (fun e => by omega)]
    exact r4 k hk
  · rw [gsi_1, if_neg (fun e => by omega), gA_set_at, if_neg (fun e => by omega)]
    exact (r5 c hc).1
  · rw [gsi_1, if_neg (fun e => by omega), gA_set_at, if_neg (fun e => by omega)]
    exact (r5 c hc).2.1
  · have hc' : c < p.1.2.1 := hc
    rw [gsi_1, if_neg (fun e => by omega), gA_set_at, if_neg (fun e => by omega)]
    exact (r5 c hc).2.2 k hk
  · rw [gsi_1, if_neg (fun e => by omega), gA_set_at, if_neg (fun e => by omega)]
    exact (r6 u hu).1
  · rw [gsi_1, gA_set_at]
    by_cases e : u = t
    · rw [if_pos ⟨rfl, e⟩, if_pos ⟨rfl, e⟩]
    · rw [if_neg (fun q => e q.2), if_neg (fun q => e q.2)]
      exact (r6 u hu).2.1
  · rw [gsi_1, if_neg (fun e => by omega), gA_set_at, if_neg (fun e => by omega)]
    exact (r6 u hu).2.2.1
  · rw [gsi_1, if_neg (fun e => by omega), gA_set_at, if_neg (fun e => by omega)]
    exact (r6 u hu).2.2.2.1
  · rw [gsi_1, if_neg (fun e => by omega), gA_set_at, if_neg (fun e => by omega)]
    exact (r6 u hu).2.2.2.2
  · rw [gsi_1, if_neg (fun e => by omega)]
    exact h3
  · rw [gsi_1, if_neg (fun e => by omega), gA_set_at, if_neg (fun e => by omega)]
    exact h4 c' hc
  · rw [gA_set_at, if_neg (fun e => by omega)]
    exact h6
  · rw [gA_set_at, if_neg (fun e => by omega)]
    exact h7
theorem gA_k2_set {p : gA} {i t : Nat} {x : Int32} (h : gA_k2 p) (hi : i = 1 ∨ i = 3 ∨ i = 12 ∨ i = 13 ∨ i = 15) : gA_k2 (gA_set p i t x) := by
  obtain ⟨h1, h2, h3⟩ := h
  refine ⟨?_, fun u hu hs => ?_, fun c hc => ?_⟩
  · rw [gA_set_at, if_neg (fun e => by omega)]
    exact h1
  · rw [gA_set_at, if_neg (fun e => by omega)] at hs ⊢
    exact h2 u hu hs
  · rw [gA_set_at, if_neg (fun e => by omega)]
    exact h3 c hc
/-- ON -/
def a_on (p : gA) (n x : Int32) : Int32 :=
  if (gB_in x 0 1 || gA_of p.1.2.2 (x - 10) || gA_of p.1.2.2 (x - 20)) = false then -1
  else if gB_in n 0 60 = false then -2
  else if x = 0 then gA_cnt (gA_go n.toNatClampNeg p) 2
  else if x = 1 then gA_cnt (gA_go n.toNatClampNeg p) 3
  else if gA_of p.1.2.2 (x - 10) = true then (gA_go n.toNatClampNeg p).2.1 14 (x - 10).toNatClampNeg
  else (gA_go n.toNatClampNeg p).2.1 15 (x - 20).toNatClampNeg
section
variable {w : Nat × (Nat → Int32)} {d t : Nat} {s : gm_S} {p : gA} {Q : Option Value → gc_M → Prop} {cs : List fC} {o : Option Nat} {x n : Int32}
theorem m_isHours : gc_X w (d + 1) 117 0 [some (.ref 137), some (.int x)] [] (gm_m s) Q = Q (some (.int (gb_i (gB_in x 0 60)))) (gm_m s) := by
  simp only [E_X12_isHours_0, E_X12_isHours_1, E_X12_isHours_2, E_X12_isHours_3, E_X12_isHours_5, E_X12_isHours_8, rc_137, m_in, gb_nar, List.map_nil, List.map_cons, List.sum_cons, List.sum_nil, gcat_i, gcat_r, gcat_l, Nat.reduceAdd, Nat.reduceLeDiff, Nat.zero_le, Option.toList, List.cons_append, List.nil_append, gnk_i, gnk_r, gnk_n, gi_1, Nat.reduceLT, if_true, if_false]
theorem m_isGrief : gc_X w (d + 1) 116 0 [some (.ref 137), some (.int x)] [] (gm_m s) Q = Q (some (.int (gb_i (gB_in x 0 99)))) (gm_m s) := by
  simp only [E_X12_isGrief_0, E_X12_isGrief_1, E_X12_isGrief_2, E_X12_isGrief_3, E_X12_isGrief_5, E_X12_isGrief_8, rc_137, m_in, gb_nar, List.map_nil, List.map_cons, List.sum_cons, List.sum_nil, gcat_i, gcat_r, gcat_l, Nat.reduceAdd, Nat.reduceLeDiff, Nat.zero_le, Option.toList, List.cons_append, List.nil_append, gnk_i, gnk_r, gnk_n, gi_1, Nat.reduceLT, if_true, if_false]
theorem gb_0 : gb_i false = 0 := rfl
theorem gb_1 : gb_i true = 1 := rfl
theorem g1_0 : ((1 : Int32) = 0) = False := eq_false (by decide)
theorem m_on2 {k : Nat} (h : mYY s o cs p) (hk60 : k ≤ 60) (hx : (gB_in x 0 1 || gA_of p.1.2.2 (x - 10) || gA_of p.1.2.2 (x - 20)) = true) (hq : ∀ s', mA s s' → mYY s' o cs p → Q (some (.int (a_on p (nI k) x))) (gm_m s')) : gc_X w (d + 7) 163 57 [some (.ref 137), some (.int (nI k)), some (.int x), none] [] (gm_m s) Q := by
  obtain ⟨hY, hk, hk2, hcs, hh⟩ := h
  have k8 := hk.2.1
  have e60 : gB_in (nI k) 0 60 = true := gB_in_nI (k := 60) hk60 (by omega)
  have ek : (nI k).toNatClampNeg = k := nI_clamp (by omega)
  simp only [E_X12_on_57, E_X12_on_58, rc_137, List.map_nil, List.map_cons, List.sum_cons, List.sum_nil, gcat_i, gcat_r, gcat_l, Nat.reduceAdd, Nat.reduceLeDiff, Nat.zero_le, Option.toList, List.cons_append, List.nil_append, gnk_i, gnk_r, gnk_n, gi_1, Nat.reduceLT, if_true, if_false]
  refine m_save hk hk2 hY (fun s1 hA1 hK1 hY1 => ?_)
  simp only [E_X12_on_61, E_X12_on_62, E_X12_on_63, rc_137, List.map_nil, List.map_cons, List.sum_cons, List.sum_nil, gcat_i, gcat_r, gcat_l, Nat.reduceAdd, Nat.reduceLeDiff, Nat.zero_le, Option.toList, List.cons_append, List.nil_append, gnk_i, gnk_r, gnk_n, gi_1, Nat.reduceLT, if_true, if_false]
  refine m_go hcs hk hk2 (by omega) hY1 (fun s2 hG2 hY2 => ?_)
  have gn : (gA_go k p).1 = (p.1.1 + k, p.1.2) := gA_go_n
  have gk : gA_ok (gA_go k p) := gA_go_ok hk (by omega)
  have fin : ∀ r : Int32, r = a_on p (nI k) x → gc_X w (d + 7) 163 126 [some (.ref 137), some (.int (nI k)), some (.int x), none] [.int r] (gm_m s2) Q := by
    intro r hr
    subst hr
    simp only [E_X12_on_126, E_X12_on_127, E_X12_on_128, rc_137, List.map_nil, List.map_cons, List.sum_cons, List.sum_nil, gcat_i, gcat_r, gcat_l, Nat.reduceAdd, Nat.reduceLeDiff, Nat.zero_le, Option.toList, List.cons_append, List.nil_append, gnk_i, gnk_r, gnk_n, gi_1, Nat.reduceLT, if_true, if_false]
    refine m_put hk hY (mA_trans hA1 (mA_G hG2)) (mKp_G hK1 hG2) (fun s3 hA3 hY3 => ?_)
    simp only [E_X12_on_131, E_X12_on_132, List.map_nil, List.map_cons, List.sum_cons, List.sum_nil, gcat_i, gcat_r, gcat_l, Nat.reduceAdd, Nat.reduceLeDiff, Nat.zero_le, Option.toList, List.cons_append, List.nil_append, gnk_i, gnk_r, gnk_n, gi_1, Nat.reduceLT, if_true, if_false]
    exact hq s3 hA3 ⟨hY3, hk, hk2, hcs, hh⟩
  unfold a_on at fin
  rw [hx, e60, ek, if_neg (by decide), if_neg (by decide)] at fin
  have hso := fun (z : Int32) (Q : Option Value → gc_M → Prop) => m_setOf (w := w) (d := d + 6) (z := z) (Q := Q) hY2.1 gk
  have hcn := fun (z : Int32) (Q : Option Value → gc_M → Prop) => m_cnt (w := w) (d := d + 5) (s := s2) (z := z) (Q := Q) gk
  by_cases x0 : x = 0
  · rw [if_pos x0] at fin
    simp only [E_X12_on_66, E_X12_on_67, E_X12_on_70, E_X12_on_71, E_X12_on_72, E_X12_on_73, E_X12_on_76, E_X12_on_79, rc_137, x0, hso, hcn, List.map_nil, List.map_cons, List.sum_cons, List.sum_nil, gcat_i, gcat_r, gcat_l, Nat.reduceAdd, Nat.reduceLeDiff, Nat.zero_le, Option.toList, List.cons_append, List.nil_append, gnk_i, gnk_r, gnk_n, gi_1, Nat.reduceLT, if_true, if_false]
    rw [← x0]
    exact fin _ rfl
  rw [if_neg x0] at fin
  by_cases x1 : x = 1
  · rw [if_pos x1] at fin
    simp only [E_X12_on_66, E_X12_on_67, E_X12_on_82, E_X12_on_83, E_X12_on_84, E_X12_on_87, E_X12_on_88, E_X12_on_89, E_X12_on_90, E_X12_on_93, E_X12_on_96, rc_137, x1, g1_0, hso, hcn, List.map_nil, List.map_cons, List.sum_cons, List.sum_nil, gcat_i, gcat_r, gcat_l, Nat.reduceAdd, Nat.reduceLeDiff, Nat.zero_le, Option.toList, List.cons_append, List.nil_append, gnk_i, gnk_r, gnk_n, gi_1, Nat.reduceLT, if_true, if_false]
    rw [← x1]
    exact fin _ rfl
  rw [if_neg x1] at fin
  have hb1 : gB_in x 0 1 = false := by
    cases hb : gB_in x 0 1 with
    | false => rfl
    | true =>
      obtain ⟨j, hj, e⟩ := gB_in_ex (k := 1) hb (by decide)
      have : j = 0 ∨ j = 1 := by omega
      rcases this with rfl | rfl
      · exact absurd e x0
      · exact absurd e x1
  cases b2 : gA_of p.1.2.2 (x - 10) with
  | true =>
    rw [b2, if_pos rfl] at fin
    obtain ⟨t, ht, e⟩ := gA_of_ex b2 (by omega)
    have i3 : vp_in (nI t) 8 := vp_in_nI (by omega) (by omega)
    have i4 : (nI t).toNatClampNeg = t := nI_clamp (by omega)
    obtain ⟨-, -, a14, -, -⟩ := hY2.1.2.2.2.2.2 t (by rw [gn]; exact ht)
    have hge : ¬ (20 : Int32) ≤ x := by
      rw [gx_off (a := 10) e]
      exact nI_ge (b := 20) (by omega) (by omega)
    simp only [E_X12_on_66, E_X12_on_67, E_X12_on_82, E_X12_on_83, E_X12_on_84, E_X12_on_99, E_X12_on_100, E_X12_on_102, E_X12_on_105, E_X12_on_106, E_X12_on_109, E_X12_on_110, E_X12_on_112, E_X12_on_113, E_X12_on_114, x0, x1, hge, e, i3, i4, rk_137, rg_137_10, ra_145, rv_145, a14, List.map_nil, List.map_cons, List.sum_cons, List.sum_nil, gcat_i, gcat_r, gcat_l, Nat.reduceAdd, Nat.reduceLeDiff, Nat.zero_le, Option.toList, List.cons_append, List.nil_append, gnk_i, gnk_r, gnk_n, gi_1, Nat.reduceLT, if_true, if_false]
    exact fin _ (by rw [e, i4])
  | false =>
    rw [b2, if_neg (by decide)] at fin
    have b3 : gA_of p.1.2.2 (x - 20) = true := by
      rw [hb1, b2] at hx
      exact hx
    obtain ⟨t, ht, e⟩ := gA_of_ex b3 (by omega)
    have i3 : vp_in (nI t) 8 := vp_in_nI (by omega) (by omega)
    have i4 : (nI t).toNatClampNeg = t := nI_clamp (by omega)
    obtain ⟨-, -, -, a15, -⟩ := hY2.1.2.2.2.2.2 t (by rw [gn]; exact ht)
    have hge : (20 : Int32) ≤ x := by
      rw [gx_off (a := 20) e]
      exact nI_le (a := 20) (by omega) (by omega)
    simp only [E_X12_on_66, E_X12_on_67, E_X12_on_82, E_X12_on_83, E_X12_on_84, E_X12_on_99, E_X12_on_100, E_X12_on_102, E_X12_on_117, E_X12_on_118, E_X12_on_121, E_X12_on_122, E_X12_on_124, E_X12_on_125, x0, x1, hge, e, i3, i4, rk_137, rg_137_11, ra_146, rv_146, a15, List.map_nil, List.map_cons, List.sum_cons, List.sum_nil, gcat_i, gcat_r, gcat_l, Nat.reduceAdd, Nat.reduceLeDiff, Nat.zero_le, Option.toList, List.cons_append, List.nil_append, gnk_i, gnk_r, gnk_n, gi_1, Nat.reduceLT, if_true, if_false]
    exact fin _ (by rw [e, i4])
/-- on, in the reference -/
theorem m_on (h : mYY s o cs p) (hq : ∀ s', mA s s' → mYY s' o cs p → Q (some (.int (a_on p n x))) (gm_m s')) : gc_X w (d + 7) 163 0 [some (.ref 137), some (.int n), some (.int x), none] [] (gm_m s) Q := by
  have k8 := h.2.1.2.1
  have h9 := h.1.1.2.1
  have hin := fun (a b c : Int32) (Q : Option Value → gc_M → Prop) => m_in (w := w) (d := d + 6) (s := s) (x := a) (y := b) (z := c) (Q := Q)
  have hih := fun (a : Int32) (Q : Option Value → gc_M → Prop) => m_isHours (w := w) (d := d + 5) (s := s) (x := a) (Q := Q)
  have c1 := gB_10 (x := x) k8
  have c2 := gB_20 (x := x) k8
  have hx : ∀ b, (gB_in x 0 1 || gA_of p.1.2.2 (x - 10) || gA_of p.1.2.2 (x - 20)) = b → gc_X w (d + 7) 163 0 [some (.ref 137), some (.int n), some (.int x), none] [] (gm_m s) Q = if b = true then gc_X w (d + 7) 163 46 [some (.ref 137), some (.int n), some (.int x), none] [] (gm_m s) Q else Q (some (.int (-1))) (gm_m s) := by
    intro b hb
    subst hb
    cases b1 : gB_in x 0 1 <;> cases b2 : gA_of p.1.2.2 (x - 10) <;> cases b3 : gA_of p.1.2.2 (x - 20) <;>
      simp only [E_X12_on_0, E_X12_on_1, E_X12_on_2, E_X12_on_3, E_X12_on_4, E_X12_on_7, E_X12_on_10, E_X12_on_11, E_X12_on_12, E_X12_on_14, E_X12_on_16, E_X12_on_17, E_X12_on_20, E_X12_on_21, E_X12_on_24, E_X12_on_27, E_X12_on_28, E_X12_on_29, E_X12_on_31, E_X12_on_33, E_X12_on_34, E_X12_on_37, E_X12_on_38, E_X12_on_41, E_X12_on_44, E_X12_on_45, E_X12_on_47, E_X12_on_48, E_X12_on_51, E_X12_on_54, E_X12_on_56, E_X12_on_57, E_X12_on_58, E_X12_on_61, E_X12_on_62, E_X12_on_63, E_X12_on_66, E_X12_on_67, E_X12_on_70, E_X12_on_71, E_X12_on_72, E_X12_on_73, E_X12_on_76, E_X12_on_79, E_X12_on_82, E_X12_on_83, E_X12_on_84, E_X12_on_87, E_X12_on_88, E_X12_on_89, E_X12_on_90, E_X12_on_93, E_X12_on_96, E_X12_on_99, E_X12_on_100, E_X12_on_102, E_X12_on_105, E_X12_on_106, E_X12_on_109, E_X12_on_110, E_X12_on_112, E_X12_on_113, E_X12_on_114, E_X12_on_117, E_X12_on_118, E_X12_on_121, E_X12_on_122, E_X12_on_124, E_X12_on_125, E_X12_on_126, E_X12_on_127, E_X12_on_128, E_X12_on_131, E_X12_on_132, rk_137, rc_137, rg_137_1, h9, hin, c1, c2, b1, b2, b3, gb_0, gb_1, g1_0, Bool.or_true, Bool.or_false, Bool.false_eq_true, List.map_nil, List.map_cons, List.sum_cons, List.sum_nil, gcat_i, gcat_r, gcat_l, Nat.reduceAdd, Nat.reduceLeDiff, Nat.zero_le, Option.toList, List.cons_append, List.nil_append, gnk_i, gnk_r, gnk_n, gi_1, Nat.reduceLT, if_true, if_false]
  cases hb : (gB_in x 0 1 || gA_of p.1.2.2 (x - 10) || gA_of p.1.2.2 (x - 20)) with
  | false =>
    rw [hx _ hb]
    unfold a_on at hq
    rw [hb, if_pos rfl] at hq
    exact hq s mA_refl h
  | true =>
    rw [hx _ hb, if_pos rfl]
    cases hn : gB_in n 0 60 with
    | false =>
      unfold a_on at hq
      rw [hb, hn, if_neg (by decide), if_pos rfl] at hq
      simp only [E_X12_on_46, E_X12_on_47, E_X12_on_48, E_X12_on_51, E_X12_on_54, E_X12_on_56, rc_137, hih, hn, gb_0, List.map_nil, List.map_cons, List.sum_cons, List.sum_nil, gcat_i, gcat_r, gcat_l, Nat.reduceAdd, Nat.reduceLeDiff, Nat.zero_le, Option.toList, List.cons_append, List.nil_append, gnk_i, gnk_r, gnk_n, gi_1, Nat.reduceLT, if_true, if_false]
      exact hq s mA_refl h
    | true =>
      obtain ⟨k, hk, e⟩ := gB_in_ex (k := 60) hn (by decide)
      subst e
      simp only [E_X12_on_46, E_X12_on_47, E_X12_on_48, E_X12_on_51, rc_137, hih, hn, gb_1, g1_0, List.map_nil, List.map_cons, List.sum_cons, List.sum_nil, gcat_i, gcat_r, gcat_l, Nat.reduceAdd, Nat.reduceLeDiff, Nat.zero_le, Option.toList, List.cons_append, List.nil_append, gnk_i, gnk_r, gnk_n, gi_1, Nat.reduceLT, if_true, if_false]
      exact m_on2 h hk hb hq
end
