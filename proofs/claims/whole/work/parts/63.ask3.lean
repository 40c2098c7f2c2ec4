/-! the reference: what is seen, griefs, can -/
abbrev gTr : Type := Nat × Nat × Nat
/-- what the reference has seen -/
def mSn (s : gm_S) (l : List gTr) : Prop := s.1 137 38 = nI l.length ∧ l.length ≤ 5 ∧ ∀ i r, l[i]? = some r → s.1 163 i = nI r.1 ∧ s.1 164 i = nI r.2.1 ∧ s.1 165 i = nI r.2.2
def gSn_ok (n : Nat) (l : List gTr) : Prop := ∀ r, r ∈ l → r.1 < n ∧ r.2.1 ≤ 12 ∧ r.2.2 ≤ 3
def a_so (p : gA) (r : gTr) : Bool := decide ((gA_go r.2.1 p).2.1 14 r.1 = nI r.2.2)
def a_seen (p : gA) (l : List gTr) : Bool := l.all (a_so p)
theorem mSn_cg {s s' : gm_S} {l : List gTr} (h : mSn s l) (e : ∀ b j, (b = 137 ∧ j = 38) ∨ (163 ≤ b ∧ b ≤ 165) → s'.1 b j = s.1 b j) : mSn s' l := by
  refine ⟨(e 137 38 (by omega)).trans h.1, h.2.1, fun i r hr => ?_⟩
  obtain ⟨a, b, c⟩ := h.2.2 i r hr
  exact ⟨(e 163 i (by omega)).trans a, (e 164 i (by omega)).trans b, (e 165 i (by omega)).trans c⟩
theorem mSn_A {s s' : gm_S} {l : List gTr} (h : mSn s l) (e : mA s s') : mSn s' l := mSn_cg h (fun b j q => e.2 b j (by unfold mAsk; omega))
/-- all but what is asked writes, and what is asked of -/
def mB (s s' : gm_S) : Prop := s'.2 = s.2 ∧ ∀ b j, ¬ mAsk b j → b ≠ 138 → b ≠ 140 → b ≠ 143 → s'.1 b j = s.1 b j
theorem mB_refl {s : gm_S} : mB s s := ⟨rfl, fun _ _ _ _ _ _ => rfl⟩
theorem mB_trans {s s' s2 : gm_S} (h : mB s s') (h2 : mB s' s2) : mB s s2 := ⟨h2.1.trans h.1, fun b j q a1 a2 a3 => (h2.2 b j q a1 a2 a3).trans (h.2 b j q a1 a2 a3)⟩
theorem mB_A {s s' : gm_S} (h : mA s s') : mB s s' := ⟨h.1, fun b j q _ _ _ => h.2 b j q⟩
theorem mB_si {s s' : gm_S} {a k : Nat} {x : Int32} (h : mB s s') (ha : a = 138 ∨ a = 140 ∨ a = 143) : mB s (gm_si s' a k x) := by
  refine ⟨by rw [gsi_2]; exact h.1, fun b j q a1 a2 a3 => ?_⟩
  rw [gsi_1, if_neg (fun e => by omega)]
  exact h.2 b j q a1 a2 a3
theorem mSn_B {s s' : gm_S} {l : List gTr} (h : mSn s l) (e : mB s s') : mSn s' l := mSn_cg h (fun b j q => e.2 b j (by unfold mAsk; omega) (by omega) (by omega) (by omega))
theorem gA_set_set {p : gA} {i j : Nat} {x y : Int32} : gA_set (gA_set p i j x) i j y = gA_set p i j y := by
  unfold gA_set
  refine congrArg (fun f => ((p.1, f, p.2.2) : gA)) (funext fun a => funext fun b => ?_)
  dsimp only
  by_cases e : a = i ∧ b = j
  · rw [if_pos e, if_pos e]
  · rw [if_neg e, if_neg e, if_neg e]
theorem gA_set_id {p : gA} {i j : Nat} : gA_set p i j (p.2.1 i j) = p := by
  unfold gA_set
  refine Eq.trans (congrArg (fun f => ((p.1, f, p.2.2) : gA)) (funext fun a => funext fun b => ?_ : _ = p.2.1)) rfl
  by_cases e : a = i ∧ b = j
  · rw [if_pos e, e.1, e.2]
  · rw [if_neg e]
/-- winds, and the numbers v -/
theorem mY_set13 {K : Int32} {s : gm_S} {o : Option Nat} {cs : List fC} {p : gA} {i t : Nat} {x : Int32} (h : mY K s o cs p) (hi : i = 1 ∨ i = 3) (hk : p.1.2.1 ≤ 6) : mY K (gm_si s (137 + i) t x) o cs (gA_set p i t x) := by
  obtain ⟨h1, h2, h3, h4, h5, h6, h7⟩ := h
  obtain ⟨r1, r2, r3, r4, r5, r6⟩ := h1
  refine ⟨⟨?_, ?_, ?_, fun k hk => ?_, fun c hc => ⟨?_, ?_, fun k hk => ?_⟩, fun u hu => ⟨?_, ?_, ?_, ?_, ?_⟩⟩, mFm_fr h2 (fun b j hb hb2 => by rw [gsi_1, if_neg (fun e => by omega)]) (by rw [gsi_1, if_neg (fun e => by omega)]), ?_, fun c' hc => ?_, h5, ?_, ?_⟩
  · rw [gsi_1, if_neg (fun e => by omega)]
    exact r1
  · rw [gsi_1, if_neg (fun e => by omega)]
    exact r2
  · rw [gsi_1, if_neg (fun e => by omega)]
    exact r3
  · rw [gsi_1, gA_set_at]
    by_cases e : 1 = i ∧ k = t
    · rw [if_pos ⟨by omega, e.2⟩, if_pos e]
    · rw [if_neg (fun q => e ⟨by omega, q.2⟩), if_neg e]
      exact r4 k hk
  · rw [gsi_1, if_neg (fun e => by omega), gA_set_at, if_neg (fun e => by omega)]
    exact (r5 c hc).1
  · rw [gsi_1, gA_set_at]
    by_cases e : 3 = i ∧ c = t
    · rw [if_pos ⟨by omega, e.2⟩, if_pos e]
    · rw [if_neg (fun q => e ⟨by omega, q.2⟩), if_neg e]
      exact (r5 c hc).2.1
  · have hc' : c < p.1.2.1 := hc
    rw [gsi_1, if_neg (fun e => by omega), gA_set_at, if_neg (fun e => by omega)]
    exact (r5 c hc).2.2 k hk
  · rw [gsi_1, if_neg (fun e => by omega), gA_set_at, if_neg (fun e => by omega)]
    exact (r6 u hu).1
  · rw [gsi_1, if_neg (fun e => by omega), gA_set_at, if_neg (fun e => by omega)]
    exact (r6 u hu).2.1
  · rw [gsi_1, if_neg (fun e => by omega), gA_set_at, if_neg (fun e => by omega)]
    exact (r6 u hu).2.2.1
  · rw [gsi_1, if_neg (fun e => by omega), gA_set_at, if_neg (fun e => by omega)]
    exact (r6 u hu).2.2.2.1
  · rw [gsi_1, if_neg (fun e => by omega), gA_set_at, if_neg (fun e => by omega)]
    exact (r6 u hu).2.2.2.2
  · rw [gsi_1, if_neg (fun e => by omega)]
    exact h3
  · rw [gsi_1, if_neg (fun e => by omega), gA_set_at, if_neg (fun e => by omega)]
    exact h4 c' hc
  · rw [gA_set_at, if_neg (fun e => by omega)]
    exact h6
  · rw [gA_set_at, if_neg (fun e => by omega)]
    exact h7
theorem mYY_set {s : gm_S} {o : Option Nat} {cs : List fC} {p : gA} {i t : Nat} {x : Int32} (h : mYY s o cs p) (hi : i = 1 ∨ i = 3) : mYY (gm_si s (137 + i) t x) o cs (gA_set p i t x) := ⟨mY_set13 h.1 hi h.2.1.1, gA_ok_set h.2.1 (by omega), gA_k2_set h.2.2.1 (by omega), h.2.2.2.1, h.2.2.2.2⟩
theorem mYY_set12 {s : gm_S} {o : Option Nat} {cs : List fC} {p : gA} {t : Nat} {x : Int32} (h : mYY s o cs p) : mYY (gm_si s 143 t x) o cs (gA_set p 12 t x) := ⟨mY_set (i := 12) h.1 h.2.1.1 (by omega), gA_ok_set h.2.1 (by omega), gA_k2_set h.2.2.1 (by omega), h.2.2.2.1, h.2.2.2.2⟩
/-- from the highest down: how many, the last -/
def gD (f : Nat → Bool) : Nat → Nat × Int32 → Nat × Int32
  | 0, q => q
  | m + 1, q => gD f m (if f m then (q.1 + 1, nI m) else q)
section
variable {w : Nat × (Nat → Int32)} {d t : Nat} {s : gm_S} {p : gA} {Q : Option Value → gc_M → Prop} {cs : List fC} {o : Option Nat} {l : List gTr} {x : Int32}
theorem m_seen_loop {s0 : gm_S} (hl : gSn_ok p.1.2.2 l) (hq : ∀ s', mA s0 s' → mYY s' o cs p → Q (some (.int (gb_i (a_seen p l)))) (gm_m s')) : ∀ (n i : Nat) (b : Bool) (s : gm_S), i + n = l.length → mA s0 s → mYY s o cs p → mSn s l → (b && (l.drop i).all (a_so p)) = a_seen p l → gc_X w (d + 7) 170 4 [some (.ref 137), some (.int (gb_i b)), some (.int (nI i))] [] (gm_m s) Q := by
  intro n
  induction n with
  | zero =>
    intro i b s hi hA h hS he
    have h1 := hS.1
    have h5 := hS.2.1
    have e : l.length = i := by omega
    rw [e] at h1
    rw [List.drop_of_length_le (by omega)] at he
    have eb : b = a_seen p l := by
      rw [← he]
      simp
    rw [E_X12_isSeen_4]
    simp only [E_X12_isSeen_0, E_X12_isSeen_1, E_X12_isSeen_2, E_X12_isSeen_3, E_X12_isSeen_5, E_X12_isSeen_6, E_X12_isSeen_9, E_X12_isSeen_12, E_X12_isSeen_13, E_X12_isSeen_16, E_X12_isSeen_17, E_X12_isSeen_20, E_X12_isSeen_21, E_X12_isSeen_22, E_X12_isSeen_25, E_X12_isSeen_26, E_X12_isSeen_27, E_X12_isSeen_30, E_X12_isSeen_31, E_X12_isSeen_34, E_X12_isSeen_35, E_X12_isSeen_38, E_X12_isSeen_39, E_X12_isSeen_40, E_X12_isSeen_41, E_X12_isSeen_42, E_X12_isSeen_45, E_X12_isSeen_46, E_X12_isSeen_47, E_X12_isSeen_50, E_X12_isSeen_51, E_X12_isSeen_54, E_X12_isSeen_55, E_X12_isSeen_56, E_X12_isSeen_57, E_X12_isSeen_60, E_X12_isSeen_63, E_X12_isSeen_66, E_X12_isSeen_67, rk_137, rg_137_38, h1, nI_le (Nat.le_refl i) (by omega : i < 2 ^ 31), gb_nar, gnk_i, gnk_r, gnk_n, gi_1, Nat.reduceLT, if_true, if_false]
    rw [eb]
    exact hq s hA h
  | succ n ih =>
    intro i b s hi hA h hS he
    have h1 := hS.1
    have h5 := hS.2.1
    have hil : i < l.length := by omega
    have hge : ¬ nI l.length ≤ nI i := nI_ge (by omega) (by omega)
    rw [E_X12_isSeen_4]
    cases b with
    | false =>
      have eb : a_seen p l = false := by
        rw [← he]
        rfl
      simp only [E_X12_isSeen_0, E_X12_isSeen_1, E_X12_isSeen_2, E_X12_isSeen_3, E_X12_isSeen_5, E_X12_isSeen_6, E_X12_isSeen_9, E_X12_isSeen_12, E_X12_isSeen_13, E_X12_isSeen_16, E_X12_isSeen_17, E_X12_isSeen_20, E_X12_isSeen_21, E_X12_isSeen_22, E_X12_isSeen_25, E_X12_isSeen_26, E_X12_isSeen_27, E_X12_isSeen_30, E_X12_isSeen_31, E_X12_isSeen_34, E_X12_isSeen_35, E_X12_isSeen_38, E_X12_isSeen_39, E_X12_isSeen_40, E_X12_isSeen_41, E_X12_isSeen_42, E_X12_isSeen_45, E_X12_isSeen_46, E_X12_isSeen_47, E_X12_isSeen_50, E_X12_isSeen_51, E_X12_isSeen_54, E_X12_isSeen_55, E_X12_isSeen_56, E_X12_isSeen_57, E_X12_isSeen_60, E_X12_isSeen_63, E_X12_isSeen_66, E_X12_isSeen_67, rk_137, rg_137_38, h1, hge, gb_0, gb_n0, gnk_i, gnk_r, gnk_n, gi_1, Nat.reduceLT, if_true, if_false]
      have hq' := hq s hA h
      rw [eb] at hq'
      exact hq'
    | true =>
      have hg : l[i]? = some l[i] := List.getElem?_eq_getElem hil
      obtain ⟨w1, w2, w3⟩ := hS.2.2 i _ hg
      obtain ⟨q1, q2, q3⟩ := hl _ (List.getElem_mem hil)
      rw [List.drop_eq_getElem_cons hil] at he
      have j1 : vp_in (nI i) 5 := vp_in_nI (by omega) (by omega)
      have j2 : (nI i).toNatClampNeg = i := nI_clamp (by omega)
      have h0 := h
      obtain ⟨hY, hk, hk2, hcs, hh⟩ := h
      have k8 := hk.2.1
      have i3 : vp_in (nI l[i].1) 8 := vp_in_nI (by omega) (by omega)
      have i4 : (nI l[i].1).toNatClampNeg = l[i].1 := nI_clamp (by omega)
      simp only [E_X12_isSeen_0, E_X12_isSeen_1, E_X12_isSeen_2, E_X12_isSeen_3, E_X12_isSeen_5, E_X12_isSeen_6, E_X12_isSeen_9, E_X12_isSeen_12, E_X12_isSeen_13, E_X12_isSeen_16, E_X12_isSeen_17, E_X12_isSeen_20, E_X12_isSeen_21, E_X12_isSeen_22, E_X12_isSeen_25, E_X12_isSeen_26, E_X12_isSeen_27, E_X12_isSeen_30, E_X12_isSeen_31, E_X12_isSeen_34, E_X12_isSeen_35, E_X12_isSeen_38, E_X12_isSeen_39, E_X12_isSeen_40, E_X12_isSeen_41, E_X12_isSeen_42, E_X12_isSeen_45, E_X12_isSeen_46, E_X12_isSeen_47, E_X12_isSeen_50, E_X12_isSeen_51, E_X12_isSeen_54, E_X12_isSeen_55, E_X12_isSeen_56, E_X12_isSeen_57, E_X12_isSeen_60, E_X12_isSeen_63, E_X12_isSeen_66, E_X12_isSeen_67, rk_137, rc_137, rg_137_38, h1, hge, gb_1, g1_0, List.map_nil, List.map_cons, List.sum_cons, List.sum_nil, gcat_i, gcat_r, gcat_l, Nat.reduceAdd, Nat.reduceLeDiff, Nat.zero_le, Option.toList, List.cons_append, List.nil_append, gnk_i, gnk_r, gnk_n, gi_1, Nat.reduceLT, if_true, if_false]
      refine m_save hk hk2 hY (fun s1 hA1 hK1 hY1 => ?_)
      have hS1 := mSn_A hS hA1
      obtain ⟨v1, v2, v3⟩ := hS1.2.2 i _ hg
      simp only [E_X12_isSeen_0, E_X12_isSeen_1, E_X12_isSeen_2, E_X12_isSeen_3, E_X12_isSeen_5, E_X12_isSeen_6, E_X12_isSeen_9, E_X12_isSeen_12, E_X12_isSeen_13, E_X12_isSeen_16, E_X12_isSeen_17, E_X12_isSeen_20, E_X12_isSeen_21, E_X12_isSeen_22, E_X12_isSeen_25, E_X12_isSeen_26, E_X12_isSeen_27, E_X12_isSeen_30, E_X12_isSeen_31, E_X12_isSeen_34, E_X12_isSeen_35, E_X12_isSeen_38, E_X12_isSeen_39, E_X12_isSeen_40, E_X12_isSeen_41, E_X12_isSeen_42, E_X12_isSeen_45, E_X12_isSeen_46, E_X12_isSeen_47, E_X12_isSeen_50, E_X12_isSeen_51, E_X12_isSeen_54, E_X12_isSeen_55, E_X12_isSeen_56, E_X12_isSeen_57, E_X12_isSeen_60, E_X12_isSeen_63, E_X12_isSeen_66, E_X12_isSeen_67, rk_137, rc_137, rg_137_40, ra_164, rv_164, j1, j2, v2, List.map_nil, List.map_cons, List.sum_cons, List.sum_nil, gcat_i, gcat_r, gcat_l, Nat.reduceAdd, Nat.reduceLeDiff, Nat.zero_le, Option.toList, List.cons_append, List.nil_append, gnk_i, gnk_r, gnk_n, gi_1, Nat.reduceLT, if_true, if_false]
      refine m_go hcs hk hk2 (by omega) hY1 (fun s2 hG2 hY2 => ?_)
      have gn : (gA_go l[i].2.1 p).1 = (p.1.1 + l[i].2.1, p.1.2) := gA_go_n
      obtain ⟨-, -, a14, -, -⟩ := hY2.1.2.2.2.2.2 l[i].1 (by rw [gn]; exact q1)
      have hS2 := mSn_A hS1 (mA_G hG2)
      obtain ⟨u1, u2, u3⟩ := hS2.2.2 i _ hg
      have hi2 := ih (i + 1)
      rw [nI_succ] at hi2
      have hso : a_so p l[i] = decide ((gA_go l[i].2.1 p).2.1 14 l[i].1 = nI l[i].2.2) := rfl
      have tail : ∀ b : Bool, b = a_so p l[i] → gc_X w (d + 7) 170 55 [some (.ref 137), some (.int 1), some (.int (nI i))] [.int (gb_i b)] (gm_m s2) Q := by
        intro b eb
        subst eb
        simp only [E_X12_isSeen_0, E_X12_isSeen_1, E_X12_isSeen_2, E_X12_isSeen_3, E_X12_isSeen_5, E_X12_isSeen_6, E_X12_isSeen_9, E_X12_isSeen_12, E_X12_isSeen_13, E_X12_isSeen_16, E_X12_isSeen_17, E_X12_isSeen_20, E_X12_isSeen_21, E_X12_isSeen_22, E_X12_isSeen_25, E_X12_isSeen_26, E_X12_isSeen_27, E_X12_isSeen_30, E_X12_isSeen_31, E_X12_isSeen_34, E_X12_isSeen_35, E_X12_isSeen_38, E_X12_isSeen_39, E_X12_isSeen_40, E_X12_isSeen_41, E_X12_isSeen_42, E_X12_isSeen_45, E_X12_isSeen_46, E_X12_isSeen_47, E_X12_isSeen_50, E_X12_isSeen_51, E_X12_isSeen_54, E_X12_isSeen_55, E_X12_isSeen_56, E_X12_isSeen_57, E_X12_isSeen_60, E_X12_isSeen_63, E_X12_isSeen_66, E_X12_isSeen_67, rc_137, List.map_nil, List.map_cons, List.sum_cons, List.sum_nil, gcat_i, gcat_r, gcat_l, Nat.reduceAdd, Nat.reduceLeDiff, Nat.zero_le, Option.toList, List.cons_append, List.nil_append, gnk_i, gnk_r, gnk_n, gi_1, Nat.reduceLT, if_true, if_false]
        refine m_put hk hY (mA_trans hA1 (mA_G hG2)) (mKp_G hK1 hG2) (fun s3 hA3 hY3 => ?_)
        simp only [E_X12_isSeen_0, E_X12_isSeen_1, E_X12_isSeen_2, E_X12_isSeen_3, E_X12_isSeen_5, E_X12_isSeen_6, E_X12_isSeen_9, E_X12_isSeen_12, E_X12_isSeen_13, E_X12_isSeen_16, E_X12_isSeen_17, E_X12_isSeen_20, E_X12_isSeen_21, E_X12_isSeen_22, E_X12_isSeen_25, E_X12_isSeen_26, E_X12_isSeen_27, E_X12_isSeen_30, E_X12_isSeen_31, E_X12_isSeen_34, E_X12_isSeen_35, E_X12_isSeen_38, E_X12_isSeen_39, E_X12_isSeen_40, E_X12_isSeen_41, E_X12_isSeen_42, E_X12_isSeen_45, E_X12_isSeen_46, E_X12_isSeen_47, E_X12_isSeen_50, E_X12_isSeen_51, E_X12_isSeen_54, E_X12_isSeen_55, E_X12_isSeen_56, E_X12_isSeen_57, E_X12_isSeen_60, E_X12_isSeen_63, E_X12_isSeen_66, E_X12_isSeen_67, List.map_nil, List.map_cons, List.sum_cons, List.sum_nil, gcat_i, gcat_r, gcat_l, Nat.reduceAdd, Nat.reduceLeDiff, Nat.zero_le, Option.toList, List.cons_append, List.nil_append, gnk_i, gnk_r, gnk_n, gi_1, Nat.reduceLT, if_true, if_false]
        refine hi2 _ s3 (by omega) (mA_trans hA hA3) (mYY_of h0 hY3) (mSn_A hS hA3) ?_
        rw [← he, Bool.true_and, List.all_cons]
      by_cases hE : (gA_go l[i].2.1 p).2.1 14 l[i].1 = nI l[i].2.2
      · rw [hso, decide_eq_true hE] at tail
        simp only [E_X12_isSeen_30, E_X12_isSeen_31, E_X12_isSeen_34, E_X12_isSeen_35, E_X12_isSeen_38, E_X12_isSeen_39, E_X12_isSeen_40, E_X12_isSeen_41, E_X12_isSeen_42, E_X12_isSeen_45, E_X12_isSeen_46, E_X12_isSeen_47, E_X12_isSeen_50, E_X12_isSeen_51, rk_137, rg_137_10, rg_137_39, rg_137_41, ra_145, rv_145, ra_163, rv_163, ra_165, rv_165, j1, j2, i3, i4, u1, u3, a14, hE, List.map_nil, List.map_cons, List.sum_cons, List.sum_nil, gcat_i, gcat_r, gcat_l, Nat.reduceAdd, Nat.reduceLeDiff, Nat.zero_le, Option.toList, List.cons_append, List.nil_append, gnk_i, gnk_r, gnk_n, gi_1, Nat.reduceLT, if_true, if_false]
        exact tail true rfl
      · rw [hso, decide_eq_false hE] at tail
        simp only [E_X12_isSeen_30, E_X12_isSeen_31, E_X12_isSeen_34, E_X12_isSeen_35, E_X12_isSeen_38, E_X12_isSeen_39, E_X12_isSeen_40, E_X12_isSeen_41, E_X12_isSeen_42, E_X12_isSeen_45, E_X12_isSeen_46, E_X12_isSeen_47, E_X12_isSeen_54, rk_137, rg_137_10, rg_137_39, rg_137_41, ra_145, rv_145, ra_163, rv_163, ra_165, rv_165, j1, j2, i3, i4, u1, u3, a14, hE, List.map_nil, List.map_cons, List.sum_cons, List.sum_nil, gcat_i, gcat_r, gcat_l, Nat.reduceAdd, Nat.reduceLeDiff, Nat.zero_le, Option.toList, List.cons_append, List.nil_append, gnk_i, gnk_r, gnk_n, gi_1, Nat.reduceLT, if_true, if_false]
        exact tail false rfl
theorem m_isSeen (hl : gSn_ok p.1.2.2 l) (h : mYY s o cs p) (hS : mSn s l) (hq : ∀ s', mA s s' → mYY s' o cs p → Q (some (.int (gb_i (a_seen p l)))) (gm_m s')) : gc_X w (d + 7) 170 0 [some (.ref 137), none, none] [] (gm_m s) Q := by
  simp only [E_X12_isSeen_0, E_X12_isSeen_1, E_X12_isSeen_2, E_X12_isSeen_3, gnk_i, gnk_r, gnk_n, gi_1, Nat.reduceLT, if_true, if_false]
  have e := m_seen_loop (w := w) (d := d) (Q := Q) (s0 := s) hl hq l.length 0 true s (by omega) mA_refl h hS (by rw [List.drop_zero]; rfl)
  rw [nI_0] at e
  exact e
/-- griefs -/
def a_gf (p : gA) (l : List gTr) (t : Nat) (k : Nat) : Bool := a_seen (gA_set p 12 t (nI k)) l
theorem m_griefs_loop {s0 : gm_S} (ht : t < p.1.2.2) (hl : gSn_ok p.1.2.2 l) : ∀ (m : Nat) (q : Nat × Int32) (s : gm_S) (y : Int32), m ≤ 100 → mB s0 s → mYY s o cs (gA_set p 12 t y) → mSn s l → (∀ s' l6 y', mB s0 s' → mYY s' o cs (gA_set p 12 t y') → gc_X w (d + 8) 171 54 [some (.ref 137), some (.int (nI t)), some (.int x), some (.int (p.2.1 12 t)), some (.int (nI (gD (a_gf p l t) m q).1)), some (.int (gD (a_gf p l t) m q).2), l6] [] (gm_m s') Q) → gc_X w (d + 8) 171 18 [some (.ref 137), some (.int (nI t)), some (.int x), some (.int (p.2.1 12 t)), some (.int (nI q.1)), some (.int q.2), some (.int (nI m - 1))] [] (gm_m s) Q := by
  intro m
  induction m with
  | zero =>
    intro q s y hm hB h hS hq
    have e : nI 0 - 1 < 0 := by decide
    rw [E_X12_griefs_18]
    simp only [E_X12_griefs_0, E_X12_griefs_1, E_X12_griefs_4, E_X12_griefs_5, E_X12_griefs_6, E_X12_griefs_7, E_X12_griefs_8, E_X12_griefs_10, E_X12_griefs_12, E_X12_griefs_14, E_X12_griefs_16, E_X12_griefs_20, E_X12_griefs_23, E_X12_griefs_24, E_X12_griefs_27, E_X12_griefs_28, E_X12_griefs_30, E_X12_griefs_31, E_X12_griefs_32, E_X12_griefs_35, E_X12_griefs_38, E_X12_griefs_41, E_X12_griefs_44, E_X12_griefs_46, E_X12_griefs_48, E_X12_griefs_51, E_X12_griefs_55, E_X12_griefs_58, E_X12_griefs_59, E_X12_griefs_60, E_X12_griefs_61, E_X12_griefs_62, E_X12_griefs_65, E_X12_griefs_67, E_X12_griefs_70, E_X12_griefs_72, e, gnk_i, gnk_r, gnk_n, gi_1, Nat.reduceLT, if_true, if_false]
    exact hq s _ y hB h
  | succ m ih =>
    intro q s y hm hB h hS hq
    have k8 : p.1.2.2 ≤ 8 := h.2.1.2.1
    have i3 : vp_in (nI t) 8 := vp_in_nI (by omega) (by omega)
    have i4 : (nI t).toNatClampNeg = t := nI_clamp (by omega)
    have e : ¬ nI m < 0 := nI_pos (by omega)
    have h2 := mYY_set12 (t := t) (x := nI m) h
    rw [gA_set_set] at h2
    have m1 : nI m + -1 = nI m - 1 := by rw [Int32.sub_eq_add_neg]
    have hi := ih
    rw [nI_pred, E_X12_griefs_18]
    rw [gD] at hq
    simp only [E_X12_griefs_0, E_X12_griefs_1, E_X12_griefs_4, E_X12_griefs_5, E_X12_griefs_6, E_X12_griefs_7, E_X12_griefs_8, E_X12_griefs_10, E_X12_griefs_12, E_X12_griefs_14, E_X12_griefs_16, E_X12_griefs_20, E_X12_griefs_23, E_X12_griefs_24, E_X12_griefs_27, E_X12_griefs_28, E_X12_griefs_30, E_X12_griefs_31, E_X12_griefs_32, E_X12_griefs_35, E_X12_griefs_38, E_X12_griefs_41, E_X12_griefs_44, E_X12_griefs_46, E_X12_griefs_48, E_X12_griefs_51, E_X12_griefs_55, E_X12_griefs_58, E_X12_griefs_59, E_X12_griefs_60, E_X12_griefs_61, E_X12_griefs_62, E_X12_griefs_65, E_X12_griefs_67, E_X12_griefs_70, E_X12_griefs_72, rk_137, rc_137, rg_137_8, ra_143, rs_143, i3, i4, e, List.map_nil, List.map_cons, List.sum_cons, List.sum_nil, gcat_i, gcat_r, gcat_l, Nat.reduceAdd, Nat.reduceLeDiff, Nat.zero_le, Option.toList, List.cons_append, List.nil_append, gnk_i, gnk_r, gnk_n, gi_1, Nat.reduceLT, if_true, if_false]
    refine m_isSeen (p := gA_set p 12 t (nI m)) hl h2 (mSn_B hS (mB_si mB_refl (by omega))) (fun s2 hA2 h3 => ?_)
    have hB2 : mB s0 s2 := mB_trans (mB_si hB (by omega)) (mB_A hA2)
    have hS2 : mSn s2 l := mSn_A (mSn_B hS (mB_si mB_refl (by omega))) hA2
    cases hs : a_gf p l t m with
    | true =>
      have hs' : a_seen (gA_set p 12 t (nI m)) l = true := hs
      rw [hs, if_pos rfl] at hq
      simp only [E_X12_griefs_0, E_X12_griefs_1, E_X12_griefs_4, E_X12_griefs_5, E_X12_griefs_6, E_X12_griefs_7, E_X12_griefs_8, E_X12_griefs_10, E_X12_griefs_12, E_X12_griefs_14, E_X12_griefs_16, E_X12_griefs_20, E_X12_griefs_23, E_X12_griefs_24, E_X12_griefs_27, E_X12_griefs_28, E_X12_griefs_30, E_X12_griefs_31, E_X12_griefs_32, E_X12_griefs_35, E_X12_griefs_38, E_X12_griefs_41, E_X12_griefs_44, E_X12_griefs_46, E_X12_griefs_48, E_X12_griefs_51, E_X12_griefs_55, E_X12_griefs_58, E_X12_griefs_59, E_X12_griefs_60, E_X12_griefs_61, E_X12_griefs_62, E_X12_griefs_65, E_X12_griefs_67, E_X12_griefs_70, E_X12_griefs_72, hs', gb_1, g1_0, gi_m1, m1, List.map_nil, List.map_cons, List.sum_cons, List.sum_nil, gcat_i, gcat_r, gcat_l, Nat.reduceAdd, Nat.reduceLeDiff, Nat.zero_le, Option.toList, List.cons_append, List.nil_append, gnk_i, gnk_r, gnk_n, gi_1, Nat.reduceLT, if_true, if_false]
      rw [← nI_succ]
      exact hi (q.1 + 1, nI m) s2 (nI m) (by omega) hB2 h3 hS2 hq
    | false =>
      have hs' : a_seen (gA_set p 12 t (nI m)) l = false := hs
      rw [hs, if_neg (by decide)] at hq
      simp only [E_X12_griefs_0, E_X12_griefs_1, E_X12_griefs_4, E_X12_griefs_5, E_X12_griefs_6, E_X12_griefs_7, E_X12_griefs_8, E_X12_griefs_10, E_X12_griefs_12, E_X12_griefs_14, E_X12_griefs_16, E_X12_griefs_20, E_X12_griefs_23, E_X12_griefs_24, E_X12_griefs_27, E_X12_griefs_28, E_X12_griefs_30, E_X12_griefs_31, E_X12_griefs_32, E_X12_griefs_35, E_X12_griefs_38, E_X12_griefs_41, E_X12_griefs_44, E_X12_griefs_46, E_X12_griefs_48, E_X12_griefs_51, E_X12_griefs_55, E_X12_griefs_58, E_X12_griefs_59, E_X12_griefs_60, E_X12_griefs_61, E_X12_griefs_62, E_X12_griefs_65, E_X12_griefs_67, E_X12_griefs_70, E_X12_griefs_72, hs', gb_0, gi_m1, m1, List.map_nil, List.map_cons, List.sum_cons, List.sum_nil, gcat_i, gcat_r, gcat_l, Nat.reduceAdd, Nat.reduceLeDiff, Nat.zero_le, Option.toList, List.cons_append, List.nil_append, gnk_i, gnk_r, gnk_n, gi_1, Nat.reduceLT, if_true, if_false]
      exact hi q s2 (nI m) (by omega) hB2 h3 hS2 hq
def a_griefs (p : gA) (l : List gTr) (t : Nat) (b : Bool) : Int32 := if b then nI (gD (a_gf p l t) 100 (0, -5)).1 else (gD (a_gf p l t) 100 (0, -5)).2
theorem m_griefs {b : Bool} (ht : t < p.1.2.2) (hl : gSn_ok p.1.2.2 l) (h : mYY s o cs p) (hS : mSn s l) (hq : ∀ s', mB s s' → mYY s' o cs p → Q (some (.int (a_griefs p l t b))) (gm_m s')) : gc_X w (d + 8) 171 0 [some (.ref 137), some (.int (nI t)), some (.int (gb_i b)), none, none, none, none] [] (gm_m s) Q := by
  have k8 := h.2.1.2.1
  have i3 : vp_in (nI t) 8 := vp_in_nI (by omega) (by omega)
  have i4 : (nI t).toNatClampNeg = t := nI_clamp (by omega)
  obtain ⟨a12, -⟩ := h.1.1.2.2.2.2.2 t ht
  have h' : mYY s o cs (gA_set p 12 t (p.2.1 12 t)) := by rw [gA_set_id]; exact h
  simp only [E_X12_griefs_0, E_X12_griefs_1, E_X12_griefs_4, E_X12_griefs_5, E_X12_griefs_6, E_X12_griefs_7, E_X12_griefs_8, E_X12_griefs_10, E_X12_griefs_12, E_X12_griefs_14, E_X12_griefs_16, E_X12_griefs_20, E_X12_griefs_23, E_X12_griefs_24, E_X12_griefs_27, E_X12_griefs_28, E_X12_griefs_30, E_X12_griefs_31, E_X12_griefs_32, E_X12_griefs_35, E_X12_griefs_38, E_X12_griefs_41, E_X12_griefs_44, E_X12_griefs_46, E_X12_griefs_48, E_X12_griefs_51, E_X12_griefs_54, E_X12_griefs_55, E_X12_griefs_58, E_X12_griefs_59, E_X12_griefs_60, E_X12_griefs_61, E_X12_griefs_62, E_X12_griefs_65, E_X12_griefs_67, E_X12_griefs_70, E_X12_griefs_72, rk_137, rg_137_8, ra_143, rv_143, i3, i4, a12, gnk_i, gnk_r, gnk_n, gi_1, Nat.reduceLT, if_true, if_false]
  refine m_griefs_loop (s0 := s) ht hl 100 (0, -5) s _ (by omega) mB_refl h' hS (fun s2 l6 y hB2 h2 => ?_)
  have h3 := mYY_set12 (t := t) (x := p.2.1 12 t) h2
  rw [gA_set_set, gA_set_id] at h3
  unfold a_griefs at hq
  cases b with
  | true =>
    rw [if_pos rfl] at hq
    simp only [E_X12_griefs_0, E_X12_griefs_1, E_X12_griefs_4, E_X12_griefs_5, E_X12_griefs_6, E_X12_griefs_7, E_X12_griefs_8, E_X12_griefs_10, E_X12_griefs_12, E_X12_griefs_14, E_X12_griefs_16, E_X12_griefs_20, E_X12_griefs_23, E_X12_griefs_24, E_X12_griefs_27, E_X12_griefs_28, E_X12_griefs_30, E_X12_griefs_31, E_X12_griefs_32, E_X12_griefs_35, E_X12_griefs_38, E_X12_griefs_41, E_X12_griefs_44, E_X12_griefs_46, E_X12_griefs_48, E_X12_griefs_51, E_X12_griefs_54, E_X12_griefs_55, E_X12_griefs_58, E_X12_griefs_59, E_X12_griefs_60, E_X12_griefs_61, E_X12_griefs_62, E_X12_griefs_65, E_X12_griefs_67, E_X12_griefs_70, E_X12_griefs_72, rk_137, rg_137_8, ra_143, rs_143, i3, i4, gb_1, g1_0, gnk_i, gnk_r, gnk_n, gi_1, Nat.reduceLT, if_true, if_false]
    exact hq _ (mB_si hB2 (by omega)) h3
  | false =>
    rw [if_neg (by decide)] at hq
    simp only [E_X12_griefs_0, E_X12_griefs_1, E_X12_griefs_4, E_X12_griefs_5, E_X12_griefs_6, E_X12_griefs_7, E_X12_griefs_8, E_X12_griefs_10, E_X12_griefs_12, E_X12_griefs_14, E_X12_griefs_16, E_X12_griefs_20, E_X12_griefs_23, E_X12_griefs_24, E_X12_griefs_27, E_X12_griefs_28, E_X12_griefs_30, E_X12_griefs_31, E_X12_griefs_32, E_X12_griefs_35, E_X12_griefs_38, E_X12_griefs_41, E_X12_griefs_44, E_X12_griefs_46, E_X12_griefs_48, E_X12_griefs_51, E_X12_griefs_54, E_X12_griefs_55, E_X12_griefs_58, E_X12_griefs_59, E_X12_griefs_60, E_X12_griefs_61, E_X12_griefs_62, E_X12_griefs_65, E_X12_griefs_67, E_X12_griefs_70, E_X12_griefs_72, rk_137, rg_137_8, ra_143, rs_143, i3, i4, gb_0, gnk_i, gnk_r, gnk_n, gi_1, Nat.reduceLT, if_true, if_false]
    exact hq _ (mB_si hB2 (by omega)) h3
/-- can -/
def a_cf (p : gA) (l : List gTr) (c : Nat) (k : Nat) : Bool := a_seen (gA_set p 3 c (nI k)) l
theorem m_can_loop {s0 : gm_S} {c : Nat} (hc : c < p.1.2.1) (hl : gSn_ok p.1.2.2 l) : ∀ (m : Nat) (q : Nat × Int32) (s : gm_S) (y : Int32), m ≤ 10 → mB s0 s → mYY s o cs (gA_set p 3 c y) → mSn s l → (∀ s' l6 y', mB s0 s' → mYY s' o cs (gA_set p 3 c y') → gc_X w (d + 8) 173 74 [some (.ref 137), some (.int (nI c)), some (.int x), some (.int (p.2.1 3 c)), some (.int (nI (gD (a_cf p l c) m q).1)), some (.int (gD (a_cf p l c) m q).2), l6] [] (gm_m s') Q) → gc_X w (d + 8) 173 38 [some (.ref 137), some (.int (nI c)), some (.int x), some (.int (p.2.1 3 c)), some (.int (nI q.1)), some (.int q.2), some (.int (nI m - 1))] [] (gm_m s) Q := by
  intro m
  induction m with
  | zero =>
    intro q s y hm hB h hS hq
    have e : nI 0 - 1 < 0 := by decide
    rw [E_X12_can_38]
    simp only [E_X12_can_0, E_X12_can_1, E_X12_can_2, E_X12_can_5, E_X12_can_8, E_X12_can_9, E_X12_can_10, E_X12_can_11, E_X12_can_12, E_X12_can_15, E_X12_can_18, E_X12_can_19, E_X12_can_20, E_X12_can_21, E_X12_can_24, E_X12_can_25, E_X12_can_26, E_X12_can_27, E_X12_can_28, E_X12_can_30, E_X12_can_32, E_X12_can_34, E_X12_can_36, E_X12_can_40, E_X12_can_43, E_X12_can_44, E_X12_can_47, E_X12_can_48, E_X12_can_50, E_X12_can_51, E_X12_can_52, E_X12_can_55, E_X12_can_58, E_X12_can_61, E_X12_can_64, E_X12_can_66, E_X12_can_68, E_X12_can_71, E_X12_can_75, E_X12_can_78, E_X12_can_79, E_X12_can_80, E_X12_can_81, E_X12_can_82, E_X12_can_85, E_X12_can_87, E_X12_can_90, E_X12_can_92, e, gnk_i, gnk_r, gnk_n, gi_1, Nat.reduceLT, if_true, if_false]
    exact hq s _ y hB h
  | succ m ih =>
    intro q s y hm hB h hS hq
    have k6 : p.1.2.1 ≤ 6 := h.2.1.1
    have i3 : vp_in (nI c) 6 := vp_in_nI (by omega) (by omega)
    have i4 : (nI c).toNatClampNeg = c := nI_clamp (by omega)
    have e : ¬ nI m < 0 := nI_pos (by omega)
    have h2 := mYY_set (i := 3) (t := c) (x := nI m) h (by omega)
    rw [gA_set_set] at h2
    have m1 : nI m + -1 = nI m - 1 := by rw [Int32.sub_eq_add_neg]
    have hi := ih
    rw [nI_pred, E_X12_can_38]
    rw [gD] at hq
    simp only [E_X12_can_0, E_X12_can_1, E_X12_can_2, E_X12_can_5, E_X12_can_8, E_X12_can_9, E_X12_can_10, E_X12_can_11, E_X12_can_12, E_X12_can_15, E_X12_can_18, E_X12_can_19, E_X12_can_20, E_X12_can_21, E_X12_can_24, E_X12_can_25, E_X12_can_26, E_X12_can_27, E_X12_can_28, E_X12_can_30, E_X12_can_32, E_X12_can_34, E_X12_can_36, E_X12_can_40, E_X12_can_43, E_X12_can_44, E_X12_can_47, E_X12_can_48, E_X12_can_50, E_X12_can_51, E_X12_can_52, E_X12_can_55, E_X12_can_58, E_X12_can_61, E_X12_can_64, E_X12_can_66, E_X12_can_68, E_X12_can_71, E_X12_can_75, E_X12_can_78, E_X12_can_79, E_X12_can_80, E_X12_can_81, E_X12_can_82, E_X12_can_85, E_X12_can_87, E_X12_can_90, E_X12_can_92, rk_137, rc_137, rg_137_5, ra_140, rs_140, i3, i4, e, List.map_nil, List.map_cons, List.sum_cons, List.sum_nil, gcat_i, gcat_r, gcat_l, Nat.reduceAdd, Nat.reduceLeDiff, Nat.zero_le, Option.toList, List.cons_append, List.nil_append, gnk_i, gnk_r, gnk_n, gi_1, Nat.reduceLT, if_true, if_false]
    refine m_isSeen (p := gA_set p 3 c (nI m)) hl h2 (mSn_B hS (mB_si mB_refl (by omega))) (fun s2 hA2 h3 => ?_)
    have hB2 : mB s0 s2 := mB_trans (mB_si hB (by omega)) (mB_A hA2)
    have hS2 : mSn s2 l := mSn_A (mSn_B hS (mB_si mB_refl (by omega))) hA2
    cases hs : a_cf p l c m with
    | true =>
      have hs' : a_seen (gA_set p 3 c (nI m)) l = true := hs
      rw [hs, if_pos rfl] at hq
      simp only [E_X12_can_0, E_X12_can_1, E_X12_can_2, E_X12_can_5, E_X12_can_8, E_X12_can_9, E_X12_can_10, E_X12_can_11, E_X12_can_12, E_X12_can_15, E_X12_can_18, E_X12_can_19, E_X12_can_20, E_X12_can_21, E_X12_can_24, E_X12_can_25, E_X12_can_26, E_X12_can_27, E_X12_can_28, E_X12_can_30, E_X12_can_32, E_X12_can_34, E_X12_can_36, E_X12_can_40, E_X12_can_43, E_X12_can_44, E_X12_can_47, E_X12_can_48, E_X12_can_50, E_X12_can_51, E_X12_can_52, E_X12_can_55, E_X12_can_58, E_X12_can_61, E_X12_can_64, E_X12_can_66, E_X12_can_68, E_X12_can_71, E_X12_can_75, E_X12_can_78, E_X12_can_79, E_X12_can_80, E_X12_can_81, E_X12_can_82, E_X12_can_85, E_X12_can_87, E_X12_can_90, E_X12_can_92, hs', gb_1, g1_0, gi_m1, m1, List.map_nil, List.map_cons, List.sum_cons, List.sum_nil, gcat_i, gcat_r, gcat_l, Nat.reduceAdd, Nat.reduceLeDiff, Nat.zero_le, Option.toList, List.cons_append, List.nil_append, gnk_i, gnk_r, gnk_n, gi_1, Nat.reduceLT, if_true, if_false]
      rw [← nI_succ]
      exact hi (q.1 + 1, nI m) s2 (nI m) (by omega) hB2 h3 hS2 hq
    | false =>
      have hs' : a_seen (gA_set p 3 c (nI m)) l = false := hs
      rw [hs, if_neg (by decide)] at hq
      simp only [E_X12_can_0, E_X12_can_1, E_X12_can_2, E_X12_can_5, E_X12_can_8, E_X12_can_9, E_X12_can_10, E_X12_can_11, E_X12_can_12, E_X12_can_15, E_X12_can_18, E_X12_can_19, E_X12_can_20, E_X12_can_21, E_X12_can_24, E_X12_can_25, E_X12_can_26, E_X12_can_27, E_X12_can_28, E_X12_can_30, E_X12_can_32, E_X12_can_34, E_X12_can_36, E_X12_can_40, E_X12_can_43, E_X12_can_44, E_X12_can_47, E_X12_can_48, E_X12_can_50, E_X12_can_51, E_X12_can_52, E_X12_can_55, E_X12_can_58, E_X12_can_61, E_X12_can_64, E_X12_can_66, E_X12_can_68, E_X12_can_71, E_X12_can_75, E_X12_can_78, E_X12_can_79, E_X12_can_80, E_X12_can_81, E_X12_can_82, E_X12_can_85, E_X12_can_87, E_X12_can_90, E_X12_can_92, hs', gb_0, gi_m1, m1, List.map_nil, List.map_cons, List.sum_cons, List.sum_nil, gcat_i, gcat_r, gcat_l, Nat.reduceAdd, Nat.reduceLeDiff, Nat.zero_le, Option.toList, List.cons_append, List.nil_append, gnk_i, gnk_r, gnk_n, gi_1, Nat.reduceLT, if_true, if_false]
      exact hi q s2 (nI m) (by omega) hB2 h3 hS2 hq
def a_can (p : gA) (l : List gTr) (x y : Int32) : Int32 := if (gA_of p.1.2.1 x && gB_in y 0 1) = false then -1 else if y = 0 then nI (gD (a_cf p l x.toNatClampNeg) 10 (0, -5)).1 else (gD (a_cf p l x.toNatClampNeg) 10 (0, -5)).2
theorem m_can {y : Int32} (hl : gSn_ok p.1.2.2 l) (h : mYY s o cs p) (hS : mSn s l) (hq : ∀ s', mB s s' → mYY s' o cs p → Q (some (.int (a_can p l x y))) (gm_m s')) : gc_X w (d + 8) 173 0 [some (.ref 137), some (.int x), some (.int y), none, none, none, none] [] (gm_m s) Q := by
  have k6 := h.2.1.1
  have hin := fun (a b c : Int32) (Q : Option Value → gc_M → Prop) => m_in (w := w) (d := d + 7) (s := s) (x := a) (y := b) (z := c) (Q := Q)
  have hic := fun (a : Int32) (Q : Option Value → gc_M → Prop) => m_isCrane (w := w) (d := d + 6) (x := a) (Q := Q) h.1.1 h.2.1
  unfold a_can at hq
  cases b1 : gA_of p.1.2.1 x with
  | false =>
    rw [b1, Bool.false_and, if_pos rfl] at hq
    simp only [E_X12_can_0, E_X12_can_1, E_X12_can_2, E_X12_can_5, E_X12_can_8, E_X12_can_9, E_X12_can_10, E_X12_can_11, E_X12_can_12, E_X12_can_15, E_X12_can_18, E_X12_can_19, E_X12_can_20, E_X12_can_21, E_X12_can_24, E_X12_can_25, E_X12_can_26, E_X12_can_27, E_X12_can_28, E_X12_can_30, E_X12_can_32, E_X12_can_34, E_X12_can_36, E_X12_can_40, E_X12_can_43, E_X12_can_44, E_X12_can_47, E_X12_can_48, E_X12_can_50, E_X12_can_51, E_X12_can_52, E_X12_can_55, E_X12_can_58, E_X12_can_61, E_X12_can_64, E_X12_can_66, E_X12_can_68, E_X12_can_71, E_X12_can_74, E_X12_can_75, E_X12_can_78, E_X12_can_79, E_X12_can_80, E_X12_can_81, E_X12_can_82, E_X12_can_85, E_X12_can_87, E_X12_can_90, E_X12_can_92, rc_137, hic, b1, gb_0, List.map_nil, List.map_cons, List.sum_cons, List.sum_nil, gcat_i, gcat_r, gcat_l, Nat.reduceAdd, Nat.reduceLeDiff, Nat.zero_le, Option.toList, List.cons_append, List.nil_append, gnk_i, gnk_r, gnk_n, gi_1, Nat.reduceLT, if_true, if_false]
    exact hq s mB_refl h
  | true =>
    cases b2 : gB_in y 0 1 with
    | false =>
      rw [b1, b2, Bool.true_and, if_pos rfl] at hq
      simp only [E_X12_can_0, E_X12_can_1, E_X12_can_2, E_X12_can_5, E_X12_can_8, E_X12_can_9, E_X12_can_10, E_X12_can_11, E_X12_can_12, E_X12_can_15, E_X12_can_18, E_X12_can_19, E_X12_can_20, E_X12_can_21, E_X12_can_24, E_X12_can_25, E_X12_can_26, E_X12_can_27, E_X12_can_28, E_X12_can_30, E_X12_can_32, E_X12_can_34, E_X12_can_36, E_X12_can_40, E_X12_can_43, E_X12_can_44, E_X12_can_47, E_X12_can_48, E_X12_can_50, E_X12_can_51, E_X12_can_52, E_X12_can_55, E_X12_can_58, E_X12_can_61, E_X12_can_64, E_X12_can_66, E_X12_can_68, E_X12_can_71, E_X12_can_74, E_X12_can_75, E_X12_can_78, E_X12_can_79, E_X12_can_80, E_X12_can_81, E_X12_can_82, E_X12_can_85, E_X12_can_87, E_X12_can_90, E_X12_can_92, rc_137, hic, hin, b1, b2, gb_0, gb_1, g1_0, List.map_nil, List.map_cons, List.sum_cons, List.sum_nil, gcat_i, gcat_r, gcat_l, Nat.reduceAdd, Nat.reduceLeDiff, Nat.zero_le, Option.toList, List.cons_append, List.nil_append, gnk_i, gnk_r, gnk_n, gi_1, Nat.reduceLT, if_true, if_false]
      exact hq s mB_refl h
    | true =>
      rw [b1, b2, Bool.true_and, if_neg (by decide)] at hq
      obtain ⟨c, hc, e⟩ := gA_of_ex b1 (by omega)
      subst e
      have i3 : vp_in (nI c) 6 := vp_in_nI (by omega) (by omega)
      have i4 : (nI c).toNatClampNeg = c := nI_clamp (by omega)
      obtain ⟨-, a3, -⟩ := h.1.1.2.2.2.2.1 c hc
      rw [i4] at hq
      have h' : mYY s o cs (gA_set p 3 c (p.2.1 3 c)) := by rw [gA_set_id]; exact h
      simp only [E_X12_can_0, E_X12_can_1, E_X12_can_2, E_X12_can_5, E_X12_can_8, E_X12_can_9, E_X12_can_10, E_X12_can_11, E_X12_can_12, E_X12_can_15, E_X12_can_18, E_X12_can_19, E_X12_can_20, E_X12_can_21, E_X12_can_24, E_X12_can_25, E_X12_can_26, E_X12_can_27, E_X12_can_28, E_X12_can_30, E_X12_can_32, E_X12_can_34, E_X12_can_36, E_X12_can_40, E_X12_can_43, E_X12_can_44, E_X12_can_47, E_X12_can_48, E_X12_can_50, E_X12_can_51, E_X12_can_52, E_X12_can_55, E_X12_can_58, E_X12_can_61, E_X12_can_64, E_X12_can_66, E_X12_can_68, E_X12_can_71, E_X12_can_74, E_X12_can_75, E_X12_can_78, E_X12_can_79, E_X12_can_80, E_X12_can_81, E_X12_can_82, E_X12_can_85, E_X12_can_87, E_X12_can_90, E_X12_can_92, rk_137, rc_137, rg_137_5, ra_140, rv_140, i3, i4, a3, hic, hin, b1, b2, gb_1, g1_0, List.map_nil, List.map_cons, List.sum_cons, List.sum_nil, gcat_i, gcat_r, gcat_l, Nat.reduceAdd, Nat.reduceLeDiff, Nat.zero_le, Option.toList, List.cons_append, List.nil_append, gnk_i, gnk_r, gnk_n, gi_1, Nat.reduceLT, if_true, if_false]
      refine m_can_loop (s0 := s) hc hl 10 (0, -5) s _ (by omega) mB_refl h' hS (fun s2 l6 z hB2 h2 => ?_)
      have h3 := mYY_set (i := 3) (t := c) (x := p.2.1 3 c) h2 (by omega)
      rw [gA_set_set, gA_set_id] at h3
      by_cases y0 : y = 0
      · rw [if_pos y0] at hq
        simp only [E_X12_can_0, E_X12_can_1, E_X12_can_2, E_X12_can_5, E_X12_can_8, E_X12_can_9, E_X12_can_10, E_X12_can_11, E_X12_can_12, E_X12_can_15, E_X12_can_18, E_X12_can_19, E_X12_can_20, E_X12_can_21, E_X12_can_24, E_X12_can_25, E_X12_can_26, E_X12_can_27, E_X12_can_28, E_X12_can_30, E_X12_can_32, E_X12_can_34, E_X12_can_36, E_X12_can_40, E_X12_can_43, E_X12_can_44, E_X12_can_47, E_X12_can_48, E_X12_can_50, E_X12_can_51, E_X12_can_52, E_X12_can_55, E_X12_can_58, E_X12_can_61, E_X12_can_64, E_X12_can_66, E_X12_can_68, E_X12_can_71, E_X12_can_74, E_X12_can_75, E_X12_can_78, E_X12_can_79, E_X12_can_80, E_X12_can_81, E_X12_can_82, E_X12_can_85, E_X12_can_87, E_X12_can_90, E_X12_can_92, rk_137, rg_137_5, ra_140, rs_140, i3, i4, y0, gnk_i, gnk_r, gnk_n, gi_1, Nat.reduceLT, if_true, if_false]
        exact hq _ (mB_si hB2 (by omega)) h3
      · rw [if_neg y0] at hq
        simp only [E_X12_can_0, E_X12_can_1, E_X12_can_2, E_X12_can_5, E_X12_can_8, E_X12_can_9, E_X12_can_10, E_X12_can_11, E_X12_can_12, E_X12_can_15, E_X12_can_18, E_X12_can_19, E_X12_can_20, E_X12_can_21, E_X12_can_24, E_X12_can_25, E_X12_can_26, E_X12_can_27, E_X12_can_28, E_X12_can_30, E_X12_can_32, E_X12_can_34, E_X12_can_36, E_X12_can_40, E_X12_can_43, E_X12_can_44, E_X12_can_47, E_X12_can_48, E_X12_can_50, E_X12_can_51, E_X12_can_52, E_X12_can_55, E_X12_can_58, E_X12_can_61, E_X12_can_64, E_X12_can_66, E_X12_can_68, E_X12_can_71, E_X12_can_74, E_X12_can_75, E_X12_can_78, E_X12_can_79, E_X12_can_80, E_X12_can_81, E_X12_can_82, E_X12_can_85, E_X12_can_87, E_X12_can_90, E_X12_can_92, rk_137, rg_137_5, ra_140, rs_140, i3, i4, y0, gnk_i, gnk_r, gnk_n, gi_1, Nat.reduceLT, if_true, if_false]
        exact hq _ (mB_si hB2 (by omega)) h3
end
