/-! what is asked, in the trial: what is seen, griefs, can -/
def cSn (s : gm_S) (l : List gTr) : Prop := s.1 1 3 = nI l.length ∧ l.length ≤ 5 ∧ ∀ i r, l[i]? = some r → s.1 2 i = nI r.1 ∧ s.1 3 i = nI r.2.1 ∧ s.1 4 i = nI r.2.2
theorem cSn_cg {s s' : gm_S} {l : List gTr} (h : cSn s l) (e : ∀ b j, b ≤ 4 → s'.1 b j = s.1 b j) : cSn s' l := by
  refine ⟨(e 1 3 (by omega)).trans h.1, h.2.1, fun i r hr => ?_⟩
  obtain ⟨a, b, c⟩ := h.2.2 i r hr
  exact ⟨(e 2 i (by omega)).trans a, (e 3 i (by omega)).trans b, (e 4 i (by omega)).trans c⟩
theorem cSn_T {s s' : gm_S} {l : List gTr} (h : cSn s l) (e : cT s s') : cSn s' l := cSn_cg h (fun b j q => e.2.2 b j (by omega))
def gMx : List gTr → Nat → Nat
  | [], m => m
  | r :: l, m => gMx l (if m < r.2.1 then r.2.1 else m)
theorem gMx_ge : ∀ {l : List gTr} {m : Nat}, m ≤ gMx l m ∧ ∀ r, r ∈ l → r.2.1 ≤ gMx l m
  | [], m => ⟨Nat.le_refl _, fun r h => by simp at h⟩
  | r :: l, m => by
    obtain ⟨h1, h2⟩ := gMx_ge (l := l) (m := if m < r.2.1 then r.2.1 else m)
    have e : gMx (r :: l) m = gMx l (if m < r.2.1 then r.2.1 else m) := rfl
    rw [e]
    refine ⟨?_, fun r' hr => ?_⟩
    · have a1 : m ≤ (if m < r.2.1 then r.2.1 else m) := by split <;> omega
      exact Nat.le_trans a1 h1
    · rcases List.mem_cons.mp hr with rfl | hr
      · have a2 : r'.2.1 ≤ (if m < r'.2.1 then r'.2.1 else m) := by split <;> omega
        exact Nat.le_trans a2 h1
      · exact h2 r' hr
theorem gMx_le : ∀ {l : List gTr} {m : Nat}, m ≤ 12 → (∀ r, r ∈ l → r.2.1 ≤ 12) → gMx l m ≤ 12
  | [], m, h, _ => h
  | r :: l, m, h, hl => by
    have := hl r (List.mem_cons_self ..)
    refine gMx_le (l := l) ?_ (fun r' hr => hl r' (List.mem_cons_of_mem _ hr))
    split <;> omega
theorem gA_go_add : ∀ {a b : Nat} {p : gA}, gA_go (a + b) p = gA_go b (gA_go a p)
  | 0, b, p => by rw [Nat.zero_add]; rfl
  | a + 1, b, p => by
    have e : a + 1 + b = a + b + 1 := by omega
    rw [e, gA_go, gA_go]
    exact gA_go_add
section
variable {w : Nat × (Nat → Int32)} {d f m : Nat} {s : gm_S} {p q : gA} {Q : Option Value → gc_M → Prop} {l : List gTr}
theorem c_max_loop (hS : cSn s l) : ∀ (n i x : Nat) (l3 : Option Value), i + n = l.length → x < 2 ^ 31 → (∀ r, r ∈ l → r.2.1 ≤ 12) → gc_X w d 107 4 [some (.ref 0), some (.int (nI x)), some (.int (nI i)), l3] [] (gm_m s) Q = gc_X w d 107 35 [some (.ref 0), some (.int (nI (gMx (l.drop i) x))), some (.int (nI l.length)), l3] [] (gm_m s) Q := by
  intro n
  have h1 := hS.1
  have h5 := hS.2.1
  induction n with
  | zero =>
    intro i x l3 hi hx hl
    have e : l.length = i := by omega
    rw [List.drop_of_length_le (by omega)]
    rw [e] at h1 ⊢
    rw [E_X11_allSeenIsSo_4]
    simp only [E_X11_allSeenIsSo_0, E_X11_allSeenIsSo_1, E_X11_allSeenIsSo_2, E_X11_allSeenIsSo_3, E_X11_allSeenIsSo_5, E_X11_allSeenIsSo_6, E_X11_allSeenIsSo_9, E_X11_allSeenIsSo_12, E_X11_allSeenIsSo_15, E_X11_allSeenIsSo_16, E_X11_allSeenIsSo_17, E_X11_allSeenIsSo_20, E_X11_allSeenIsSo_23, E_X11_allSeenIsSo_24, E_X11_allSeenIsSo_25, E_X11_allSeenIsSo_28, E_X11_allSeenIsSo_29, E_X11_allSeenIsSo_32, E_X11_allSeenIsSo_36, E_X11_allSeenIsSo_37, E_X11_allSeenIsSo_38, E_X11_allSeenIsSo_39, E_X11_allSeenIsSo_42, E_X11_allSeenIsSo_43, E_X11_allSeenIsSo_46, E_X11_allSeenIsSo_47, E_X11_allSeenIsSo_50, E_X11_allSeenIsSo_51, E_X11_allSeenIsSo_54, E_X11_allSeenIsSo_55, E_X11_allSeenIsSo_56, E_X11_allSeenIsSo_57, E_X11_allSeenIsSo_58, E_X11_allSeenIsSo_61, E_X11_allSeenIsSo_64, E_X11_allSeenIsSo_67, E_X11_allSeenIsSo_68, E_X11_allSeenIsSo_71, E_X11_allSeenIsSo_74, E_X11_allSeenIsSo_75, E_X11_allSeenIsSo_76, E_X11_allSeenIsSo_77, E_X11_allSeenIsSo_80, E_X11_allSeenIsSo_81, E_X11_allSeenIsSo_84, E_X11_allSeenIsSo_85, E_X11_allSeenIsSo_88, E_X11_allSeenIsSo_91, E_X11_allSeenIsSo_92, E_X11_allSeenIsSo_93, E_X11_allSeenIsSo_94, E_X11_allSeenIsSo_97, E_X11_allSeenIsSo_100, E_X11_allSeenIsSo_101, E_X11_allSeenIsSo_102, E_X11_allSeenIsSo_105, E_X11_allSeenIsSo_108, E_X11_allSeenIsSo_109, E_X11_allSeenIsSo_110, E_X11_allSeenIsSo_113, E_X11_allSeenIsSo_116, E_X11_allSeenIsSo_119, E_X11_allSeenIsSo_122, E_X11_allSeenIsSo_123, rk_0, rk_1, rg_0_3, rg_1_3, h1, nI_le (Nat.le_refl i) (by omega : i < 2 ^ 31), gMx, gnk_i, gnk_r, gnk_n, gi_1, Nat.reduceLT, if_true, if_false]
  | succ n ih =>
    intro i x l3 hi hx hl
    have hil : i < l.length := by omega
    have hg : l[i]? = some l[i] := List.getElem?_eq_getElem hil
    obtain ⟨-, w2, -⟩ := hS.2.2 i _ hg
    have h12 := hl _ (List.getElem_mem hil)
    have j1 : vp_in (nI i) 5 := vp_in_nI (by omega) (by omega)
    have j2 : (nI i).toNatClampNeg = i := nI_clamp (by omega)
    have hge : ¬ nI l.length ≤ nI i := nI_ge (by omega) (by omega)
    have hi2 := fun x l3 hx => ih (i + 1) x l3 (by omega) hx hl
    rw [nI_succ] at hi2
    rw [List.drop_eq_getElem_cons hil, gMx, E_X11_allSeenIsSo_4]
    by_cases hc : x < l[i].2.1
    · have hc2 : nI x < nI l[i].2.1 := nI_lt hc (by omega)
      simp only [E_X11_allSeenIsSo_0, E_X11_allSeenIsSo_1, E_X11_allSeenIsSo_2, E_X11_allSeenIsSo_3, E_X11_allSeenIsSo_5, E_X11_allSeenIsSo_6, E_X11_allSeenIsSo_9, E_X11_allSeenIsSo_12, E_X11_allSeenIsSo_15, E_X11_allSeenIsSo_16, E_X11_allSeenIsSo_17, E_X11_allSeenIsSo_20, E_X11_allSeenIsSo_23, E_X11_allSeenIsSo_24, E_X11_allSeenIsSo_25, E_X11_allSeenIsSo_28, E_X11_allSeenIsSo_29, E_X11_allSeenIsSo_32, E_X11_allSeenIsSo_36, E_X11_allSeenIsSo_37, E_X11_allSeenIsSo_38, E_X11_allSeenIsSo_39, E_X11_allSeenIsSo_42, E_X11_allSeenIsSo_43, E_X11_allSeenIsSo_46, E_X11_allSeenIsSo_47, E_X11_allSeenIsSo_50, E_X11_allSeenIsSo_51, E_X11_allSeenIsSo_54, E_X11_allSeenIsSo_55, E_X11_allSeenIsSo_56, E_X11_allSeenIsSo_57, E_X11_allSeenIsSo_58, E_X11_allSeenIsSo_61, E_X11_allSeenIsSo_64, E_X11_allSeenIsSo_67, E_X11_allSeenIsSo_68, E_X11_allSeenIsSo_71, E_X11_allSeenIsSo_74, E_X11_allSeenIsSo_75, E_X11_allSeenIsSo_76, E_X11_allSeenIsSo_77, E_X11_allSeenIsSo_80, E_X11_allSeenIsSo_81, E_X11_allSeenIsSo_84, E_X11_allSeenIsSo_85, E_X11_allSeenIsSo_88, E_X11_allSeenIsSo_91, E_X11_allSeenIsSo_92, E_X11_allSeenIsSo_93, E_X11_allSeenIsSo_94, E_X11_allSeenIsSo_97, E_X11_allSeenIsSo_100, E_X11_allSeenIsSo_101, E_X11_allSeenIsSo_102, E_X11_allSeenIsSo_105, E_X11_allSeenIsSo_108, E_X11_allSeenIsSo_109, E_X11_allSeenIsSo_110, E_X11_allSeenIsSo_113, E_X11_allSeenIsSo_116, E_X11_allSeenIsSo_119, E_X11_allSeenIsSo_122, E_X11_allSeenIsSo_123, rk_0, rk_1, rg_0_3, rg_1_3, rg_1_1, ra_3, rv_3, h1, hge, j1, j2, w2, hc, hc2, List.map_nil, List.map_cons, List.sum_cons, List.sum_nil, gcat_i, gcat_r, gcat_l, Nat.reduceAdd, Nat.reduceLeDiff, Nat.zero_le, Option.toList, List.cons_append, List.nil_append, gnk_i, gnk_r, gnk_n, gi_1, Nat.reduceLT, if_true, if_false]
      exact hi2 _ _ (by omega)
    · have hc2 : ¬ nI x < nI l[i].2.1 := nI_nlt (by omega) hx
      simp only [E_X11_allSeenIsSo_0, E_X11_allSeenIsSo_1, E_X11_allSeenIsSo_2, E_X11_allSeenIsSo_3, E_X11_allSeenIsSo_5, E_X11_allSeenIsSo_6, E_X11_allSeenIsSo_9, E_X11_allSeenIsSo_12, E_X11_allSeenIsSo_15, E_X11_allSeenIsSo_16, E_X11_allSeenIsSo_17, E_X11_allSeenIsSo_20, E_X11_allSeenIsSo_23, E_X11_allSeenIsSo_24, E_X11_allSeenIsSo_25, E_X11_allSeenIsSo_28, E_X11_allSeenIsSo_29, E_X11_allSeenIsSo_32, E_X11_allSeenIsSo_36, E_X11_allSeenIsSo_37, E_X11_allSeenIsSo_38, E_X11_allSeenIsSo_39, E_X11_allSeenIsSo_42, E_X11_allSeenIsSo_43, E_X11_allSeenIsSo_46, E_X11_allSeenIsSo_47, E_X11_allSeenIsSo_50, E_X11_allSeenIsSo_51, E_X11_allSeenIsSo_54, E_X11_allSeenIsSo_55, E_X11_allSeenIsSo_56, E_X11_allSeenIsSo_57, E_X11_allSeenIsSo_58, E_X11_allSeenIsSo_61, E_X11_allSeenIsSo_64, E_X11_allSeenIsSo_67, E_X11_allSeenIsSo_68, E_X11_allSeenIsSo_71, E_X11_allSeenIsSo_74, E_X11_allSeenIsSo_75, E_X11_allSeenIsSo_76, E_X11_allSeenIsSo_77, E_X11_allSeenIsSo_80, E_X11_allSeenIsSo_81, E_X11_allSeenIsSo_84, E_X11_allSeenIsSo_85, E_X11_allSeenIsSo_88, E_X11_allSeenIsSo_91, E_X11_allSeenIsSo_92, E_X11_allSeenIsSo_93, E_X11_allSeenIsSo_94, E_X11_allSeenIsSo_97, E_X11_allSeenIsSo_100, E_X11_allSeenIsSo_101, E_X11_allSeenIsSo_102, E_X11_allSeenIsSo_105, E_X11_allSeenIsSo_108, E_X11_allSeenIsSo_109, E_X11_allSeenIsSo_110, E_X11_allSeenIsSo_113, E_X11_allSeenIsSo_116, E_X11_allSeenIsSo_119, E_X11_allSeenIsSo_122, E_X11_allSeenIsSo_123, rk_0, rk_1, rg_0_3, rg_1_3, rg_1_1, ra_3, rv_3, h1, hge, j1, j2, w2, hc, hc2, List.map_nil, List.map_cons, List.sum_cons, List.sum_nil, gcat_i, gcat_r, gcat_l, Nat.reduceAdd, Nat.reduceLeDiff, Nat.zero_le, Option.toList, List.cons_append, List.nil_append, gnk_i, gnk_r, gnk_n, gi_1, Nat.reduceLT, if_true, if_false]
      exact hi2 _ _ hx
theorem c_seen1_loop {s0 : gm_S} {h x : Nat} (hk : gA_ok (gA_go h q)) (hh : h < 100) (hx : x < 100) (hl : gSn_ok (gA_go h q).1.2.2 l) (hS : cSn s l) (hT : cT s0 s) (hR : gR s 101 f m (gA_go h q)) (hq0 : a_seen q l = false → ∀ s', cT s0 s' → Q (some (.int 0)) (gm_m s')) : ∀ (n i : Nat), i + n = l.length → ((∀ r, r ∈ l.drop i → r.2.1 = h → a_so q r = true) → gc_X w (d + 5) 107 116 [some (.ref 0), some (.int (nI x)), some (.int (nI h)), some (.int (nI l.length))] [] (gm_m s) Q) → gc_X w (d + 5) 107 56 [some (.ref 0), some (.int (nI x)), some (.int (nI h)), some (.int (nI i))] [] (gm_m s) Q := by
  intro n
  have h1 := hS.1
  have h5 := hS.2.1
  induction n with
  | zero =>
    intro i hi hq
    have e : l.length = i := by omega
    rw [List.drop_of_length_le (by omega)] at hq
    have hq := hq (fun r hr => by simp at hr)
    rw [e] at h1 hq
    rw [E_X11_allSeenIsSo_56]
    simp only [E_X11_allSeenIsSo_0, E_X11_allSeenIsSo_1, E_X11_allSeenIsSo_2, E_X11_allSeenIsSo_3, E_X11_allSeenIsSo_5, E_X11_allSeenIsSo_6, E_X11_allSeenIsSo_9, E_X11_allSeenIsSo_12, E_X11_allSeenIsSo_15, E_X11_allSeenIsSo_16, E_X11_allSeenIsSo_17, E_X11_allSeenIsSo_20, E_X11_allSeenIsSo_23, E_X11_allSeenIsSo_24, E_X11_allSeenIsSo_25, E_X11_allSeenIsSo_28, E_X11_allSeenIsSo_29, E_X11_allSeenIsSo_32, E_X11_allSeenIsSo_36, E_X11_allSeenIsSo_38, E_X11_allSeenIsSo_39, E_X11_allSeenIsSo_42, E_X11_allSeenIsSo_43, E_X11_allSeenIsSo_46, E_X11_allSeenIsSo_47, E_X11_allSeenIsSo_50, E_X11_allSeenIsSo_51, E_X11_allSeenIsSo_54, E_X11_allSeenIsSo_55, E_X11_allSeenIsSo_57, E_X11_allSeenIsSo_58, E_X11_allSeenIsSo_61, E_X11_allSeenIsSo_64, E_X11_allSeenIsSo_67, E_X11_allSeenIsSo_68, E_X11_allSeenIsSo_71, E_X11_allSeenIsSo_74, E_X11_allSeenIsSo_75, E_X11_allSeenIsSo_76, E_X11_allSeenIsSo_77, E_X11_allSeenIsSo_80, E_X11_allSeenIsSo_81, E_X11_allSeenIsSo_84, E_X11_allSeenIsSo_85, E_X11_allSeenIsSo_88, E_X11_allSeenIsSo_91, E_X11_allSeenIsSo_92, E_X11_allSeenIsSo_93, E_X11_allSeenIsSo_94, E_X11_allSeenIsSo_97, E_X11_allSeenIsSo_100, E_X11_allSeenIsSo_101, E_X11_allSeenIsSo_102, E_X11_allSeenIsSo_105, E_X11_allSeenIsSo_108, E_X11_allSeenIsSo_109, E_X11_allSeenIsSo_110, E_X11_allSeenIsSo_113, E_X11_allSeenIsSo_119, E_X11_allSeenIsSo_122, E_X11_allSeenIsSo_123, rk_0, rk_1, rg_0_3, rg_1_3, h1, nI_le (Nat.le_refl i) (by omega : i < 2 ^ 31), gnk_i, gnk_r, gnk_n, gi_1, Nat.reduceLT, if_true, if_false]
    exact hq
  | succ n ih =>
    intro i hi hq
    have hil : i < l.length := by omega
    have hg : l[i]? = some l[i] := List.getElem?_eq_getElem hil
    obtain ⟨w1, w2, w3⟩ := hS.2.2 i _ hg
    obtain ⟨q1, q2, q3⟩ := hl _ (List.getElem_mem hil)
    have j1 : vp_in (nI i) 5 := vp_in_nI (by omega) (by omega)
    have j2 : (nI i).toNatClampNeg = i := nI_clamp (by omega)
    have hge : ¬ nI l.length ≤ nI i := nI_ge (by omega) (by omega)
    have hi2 := ih (i + 1) (by omega)
    rw [nI_succ] at hi2
    rw [List.drop_eq_getElem_cons hil] at hq
    have hin := fun (z : Int32) (Q : Option Value → gc_M → Prop) => gy_isIn (w := w) (d := d + 3) (x := nI l[i].1) (z := z) (Q := Q) hR hk
    simp only [gA_isIn_t q1 hk] at hin
    rw [E_X11_allSeenIsSo_56]
    by_cases hw : l[i].2.1 = h
    · have ew : (nI l[i].2.1 = nI h) = True := eq_true (by rw [hw])
      have hso : a_so q l[i] = decide ((gA_go h q).2.1 14 l[i].1 = nI l[i].2.2) := by
        show decide ((gA_go l[i].2.1 q).2.1 14 l[i].1 = nI l[i].2.2) = _
        rw [hw]
      by_cases hE : (gA_go h q).2.1 14 l[i].1 = nI l[i].2.2
      · rw [decide_eq_true hE] at hso
        simp only [E_X11_allSeenIsSo_0, E_X11_allSeenIsSo_1, E_X11_allSeenIsSo_2, E_X11_allSeenIsSo_3, E_X11_allSeenIsSo_5, E_X11_allSeenIsSo_6, E_X11_allSeenIsSo_9, E_X11_allSeenIsSo_12, E_X11_allSeenIsSo_15, E_X11_allSeenIsSo_16, E_X11_allSeenIsSo_17, E_X11_allSeenIsSo_20, E_X11_allSeenIsSo_23, E_X11_allSeenIsSo_24, E_X11_allSeenIsSo_25, E_X11_allSeenIsSo_28, E_X11_allSeenIsSo_29, E_X11_allSeenIsSo_32, E_X11_allSeenIsSo_36, E_X11_allSeenIsSo_38, E_X11_allSeenIsSo_39, E_X11_allSeenIsSo_42, E_X11_allSeenIsSo_43, E_X11_allSeenIsSo_46, E_X11_allSeenIsSo_47, E_X11_allSeenIsSo_50, E_X11_allSeenIsSo_51, E_X11_allSeenIsSo_54, E_X11_allSeenIsSo_55, E_X11_allSeenIsSo_57, E_X11_allSeenIsSo_58, E_X11_allSeenIsSo_61, E_X11_allSeenIsSo_64, E_X11_allSeenIsSo_67, E_X11_allSeenIsSo_68, E_X11_allSeenIsSo_71, E_X11_allSeenIsSo_74, E_X11_allSeenIsSo_75, E_X11_allSeenIsSo_76, E_X11_allSeenIsSo_77, E_X11_allSeenIsSo_80, E_X11_allSeenIsSo_81, E_X11_allSeenIsSo_84, E_X11_allSeenIsSo_85, E_X11_allSeenIsSo_88, E_X11_allSeenIsSo_91, E_X11_allSeenIsSo_92, E_X11_allSeenIsSo_93, E_X11_allSeenIsSo_94, E_X11_allSeenIsSo_97, E_X11_allSeenIsSo_100, E_X11_allSeenIsSo_101, E_X11_allSeenIsSo_102, E_X11_allSeenIsSo_105, E_X11_allSeenIsSo_108, E_X11_allSeenIsSo_109, E_X11_allSeenIsSo_110, E_X11_allSeenIsSo_113, E_X11_allSeenIsSo_119, E_X11_allSeenIsSo_122, E_X11_allSeenIsSo_123, rk_0, rk_1, rc_101, rg_0_1, rg_0_3, rg_1_0, rg_1_1, rg_1_2, rg_1_3, ra_2, rv_2, ra_3, rv_3, ra_4, rv_4, h1, hge, j1, j2, w1, w2, w3, ew, hin, hE, decide_true, gb_1, g1_0, List.map_nil, List.map_cons, List.sum_cons, List.sum_nil, gcat_i, gcat_r, gcat_l, Nat.reduceAdd, Nat.reduceLeDiff, Nat.zero_le, Option.toList, List.cons_append, List.nil_append, gnk_i, gnk_r, gnk_n, gi_1, Nat.reduceLT, if_true, if_false]
        exact hi2 (fun hall => hq (fun r hr hrh => by
          rcases List.mem_cons.mp hr with rfl | hr
          · exact hso
          · exact hall r hr hrh))
      · rw [decide_eq_false hE] at hso
        have hf : a_seen q l = false := by
          unfold a_seen
          rw [List.all_eq_false]
          exact ⟨l[i], List.getElem_mem hil, by rw [hso]; decide⟩
        simp only [E_X11_allSeenIsSo_0, E_X11_allSeenIsSo_1, E_X11_allSeenIsSo_2, E_X11_allSeenIsSo_3, E_X11_allSeenIsSo_5, E_X11_allSeenIsSo_6, E_X11_allSeenIsSo_9, E_X11_allSeenIsSo_12, E_X11_allSeenIsSo_15, E_X11_allSeenIsSo_16, E_X11_allSeenIsSo_17, E_X11_allSeenIsSo_20, E_X11_allSeenIsSo_23, E_X11_allSeenIsSo_24, E_X11_allSeenIsSo_25, E_X11_allSeenIsSo_28, E_X11_allSeenIsSo_29, E_X11_allSeenIsSo_32, E_X11_allSeenIsSo_36, E_X11_allSeenIsSo_38, E_X11_allSeenIsSo_39, E_X11_allSeenIsSo_42, E_X11_allSeenIsSo_43, E_X11_allSeenIsSo_46, E_X11_allSeenIsSo_47, E_X11_allSeenIsSo_50, E_X11_allSeenIsSo_51, E_X11_allSeenIsSo_54, E_X11_allSeenIsSo_55, E_X11_allSeenIsSo_57, E_X11_allSeenIsSo_58, E_X11_allSeenIsSo_61, E_X11_allSeenIsSo_64, E_X11_allSeenIsSo_67, E_X11_allSeenIsSo_68, E_X11_allSeenIsSo_71, E_X11_allSeenIsSo_74, E_X11_allSeenIsSo_75, E_X11_allSeenIsSo_76, E_X11_allSeenIsSo_77, E_X11_allSeenIsSo_80, E_X11_allSeenIsSo_81, E_X11_allSeenIsSo_84, E_X11_allSeenIsSo_85, E_X11_allSeenIsSo_88, E_X11_allSeenIsSo_91, E_X11_allSeenIsSo_92, E_X11_allSeenIsSo_93, E_X11_allSeenIsSo_94, E_X11_allSeenIsSo_97, E_X11_allSeenIsSo_100, E_X11_allSeenIsSo_101, E_X11_allSeenIsSo_102, E_X11_allSeenIsSo_105, E_X11_allSeenIsSo_108, E_X11_allSeenIsSo_109, E_X11_allSeenIsSo_110, E_X11_allSeenIsSo_113, E_X11_allSeenIsSo_119, E_X11_allSeenIsSo_122, E_X11_allSeenIsSo_123, rk_0, rk_1, rc_101, rg_0_1, rg_0_3, rg_1_0, rg_1_1, rg_1_2, rg_1_3, ra_2, rv_2, ra_3, rv_3, ra_4, rv_4, h1, hge, j1, j2, w1, w2, w3, ew, hin, hE, decide_false, gb_0, gb_n0, List.map_nil, List.map_cons, List.sum_cons, List.sum_nil, gcat_i, gcat_r, gcat_l, Nat.reduceAdd, Nat.reduceLeDiff, Nat.zero_le, Option.toList, List.cons_append, List.nil_append, gnk_i, gnk_r, gnk_n, gi_1, Nat.reduceLT, if_true, if_false]
        exact hq0 hf s hT
    · have ew : (nI l[i].2.1 = nI h) = False := eq_false (fun e => hw ((nI_eq (by omega) (by omega)).mp e))
      simp only [E_X11_allSeenIsSo_0, E_X11_allSeenIsSo_1, E_X11_allSeenIsSo_2, E_X11_allSeenIsSo_3, E_X11_allSeenIsSo_5, E_X11_allSeenIsSo_6, E_X11_allSeenIsSo_9, E_X11_allSeenIsSo_12, E_X11_allSeenIsSo_15, E_X11_allSeenIsSo_16, E_X11_allSeenIsSo_17, E_X11_allSeenIsSo_20, E_X11_allSeenIsSo_23, E_X11_allSeenIsSo_24, E_X11_allSeenIsSo_25, E_X11_allSeenIsSo_28, E_X11_allSeenIsSo_29, E_X11_allSeenIsSo_32, E_X11_allSeenIsSo_36, E_X11_allSeenIsSo_38, E_X11_allSeenIsSo_39, E_X11_allSeenIsSo_42, E_X11_allSeenIsSo_43, E_X11_allSeenIsSo_46, E_X11_allSeenIsSo_47, E_X11_allSeenIsSo_50, E_X11_allSeenIsSo_51, E_X11_allSeenIsSo_54, E_X11_allSeenIsSo_55, E_X11_allSeenIsSo_57, E_X11_allSeenIsSo_58, E_X11_allSeenIsSo_61, E_X11_allSeenIsSo_64, E_X11_allSeenIsSo_67, E_X11_allSeenIsSo_68, E_X11_allSeenIsSo_71, E_X11_allSeenIsSo_74, E_X11_allSeenIsSo_75, E_X11_allSeenIsSo_76, E_X11_allSeenIsSo_77, E_X11_allSeenIsSo_80, E_X11_allSeenIsSo_81, E_X11_allSeenIsSo_84, E_X11_allSeenIsSo_85, E_X11_allSeenIsSo_88, E_X11_allSeenIsSo_91, E_X11_allSeenIsSo_92, E_X11_allSeenIsSo_93, E_X11_allSeenIsSo_94, E_X11_allSeenIsSo_97, E_X11_allSeenIsSo_100, E_X11_allSeenIsSo_101, E_X11_allSeenIsSo_102, E_X11_allSeenIsSo_105, E_X11_allSeenIsSo_108, E_X11_allSeenIsSo_109, E_X11_allSeenIsSo_110, E_X11_allSeenIsSo_113, E_X11_allSeenIsSo_119, E_X11_allSeenIsSo_122, E_X11_allSeenIsSo_123, rk_0, rk_1, rg_0_1, rg_0_3, rg_1_1, rg_1_3, ra_3, rv_3, h1, hge, j1, j2, w2, ew, List.map_nil, List.map_cons, List.sum_cons, List.sum_nil, gcat_i, gcat_r, gcat_l, Nat.reduceAdd, Nat.reduceLeDiff, Nat.zero_le, Option.toList, List.cons_append, List.nil_append, gnk_i, gnk_r, gnk_n, gi_1, Nat.reduceLT, if_true, if_false]
      exact hi2 (fun hall => hq (fun r hr hrh => by
        rcases List.mem_cons.mp hr with rfl | hr
        · exact absurd hrh hw
        · exact hall r hr hrh))
theorem c_seen_loop {s0 : gm_S} (hk : gA_ok q) (hh : q.1.1 ≤ 9999) (hl : gSn_ok q.1.2.2 l) (hx : gMx l 0 ≤ 12) (hq : ∀ s', cT s0 s' → Q (some (.int (gb_i (a_seen q l)))) (gm_m s')) : ∀ (n h : Nat) (s : gm_S) (l3 : Option Value), h + n = gMx l 0 + 1 → cSn s l → cT s0 s → gR s 101 f m (gA_go (h - 1) q) → (∀ r, r ∈ l → r.2.1 < h → a_so q r = true) → gc_X w (d + 5) 107 37 [some (.ref 0), some (.int (nI (gMx l 0))), some (.int (nI h)), l3] [] (gm_m s) Q := by
  intro n
  induction n with
  | zero =>
    intro h s l3 hh1 hS hT hR hall
    have e : nI (gMx l 0) < nI h := nI_lt (by omega) (by omega)
    have ht : a_seen q l = true := by
      unfold a_seen
      rw [List.all_eq_true]
      intro r hr
      have := (gMx_ge (l := l) (m := 0)).2 r hr
      exact hall r hr (by omega)
    rw [E_X11_allSeenIsSo_37]
    simp only [E_X11_allSeenIsSo_0, E_X11_allSeenIsSo_1, E_X11_allSeenIsSo_2, E_X11_allSeenIsSo_3, E_X11_allSeenIsSo_5, E_X11_allSeenIsSo_6, E_X11_allSeenIsSo_9, E_X11_allSeenIsSo_12, E_X11_allSeenIsSo_15, E_X11_allSeenIsSo_16, E_X11_allSeenIsSo_17, E_X11_allSeenIsSo_20, E_X11_allSeenIsSo_23, E_X11_allSeenIsSo_24, E_X11_allSeenIsSo_25, E_X11_allSeenIsSo_28, E_X11_allSeenIsSo_29, E_X11_allSeenIsSo_32, E_X11_allSeenIsSo_36, E_X11_allSeenIsSo_38, E_X11_allSeenIsSo_39, E_X11_allSeenIsSo_42, E_X11_allSeenIsSo_43, E_X11_allSeenIsSo_46, E_X11_allSeenIsSo_47, E_X11_allSeenIsSo_50, E_X11_allSeenIsSo_51, E_X11_allSeenIsSo_54, E_X11_allSeenIsSo_55, E_X11_allSeenIsSo_57, E_X11_allSeenIsSo_58, E_X11_allSeenIsSo_61, E_X11_allSeenIsSo_64, E_X11_allSeenIsSo_67, E_X11_allSeenIsSo_68, E_X11_allSeenIsSo_71, E_X11_allSeenIsSo_74, E_X11_allSeenIsSo_75, E_X11_allSeenIsSo_76, E_X11_allSeenIsSo_77, E_X11_allSeenIsSo_80, E_X11_allSeenIsSo_81, E_X11_allSeenIsSo_84, E_X11_allSeenIsSo_85, E_X11_allSeenIsSo_88, E_X11_allSeenIsSo_91, E_X11_allSeenIsSo_92, E_X11_allSeenIsSo_93, E_X11_allSeenIsSo_94, E_X11_allSeenIsSo_97, E_X11_allSeenIsSo_100, E_X11_allSeenIsSo_101, E_X11_allSeenIsSo_102, E_X11_allSeenIsSo_105, E_X11_allSeenIsSo_108, E_X11_allSeenIsSo_109, E_X11_allSeenIsSo_110, E_X11_allSeenIsSo_113, E_X11_allSeenIsSo_119, E_X11_allSeenIsSo_122, E_X11_allSeenIsSo_123, e, gb_n1, gnk_i, gnk_r, gnk_n, gi_1, Nat.reduceLT, if_true, if_false]
    have hq' := hq s hT
    rw [ht] at hq'
    exact hq'
  | succ n ih =>
    intro h s l3 hh1 hS hT hR hall
    have e : ¬ nI (gMx l 0) < nI h := nI_nlt (by omega) (by omega)
    have hi2 := ih (h + 1)
    rw [nI_succ, Nat.add_sub_cancel] at hi2
    have gn : (gA_go h q).1 = (q.1.1 + h, q.1.2) := gA_go_n
    have gk : gA_ok (gA_go h q) := gA_go_ok hk (by omega)
    have hq0 : a_seen q l = false → ∀ s', cT s0 s' → Q (some (.int 0)) (gm_m s') := fun e s' hT' => by
      have := hq s' hT'
      rw [e] at this
      exact this
    have inner : ∀ s1, cT s0 s1 → cSn s1 l → gR s1 101 f m (gA_go h q) → gc_X w (d + 5) 107 54 [some (.ref 0), some (.int (nI (gMx l 0))), some (.int (nI h)), l3] [] (gm_m s1) Q := by
      intro s1 hT1 hS1 hR1
      simp only [E_X11_allSeenIsSo_54, E_X11_allSeenIsSo_55, gnk_i, gnk_r, gnk_n, gi_1, Nat.reduceLT, if_true, if_false]
      rw [← nI_0]
      refine c_seen1_loop gk (by omega) (by omega) (by rw [gn]; exact hl) hS1 hT1 hR1 hq0 l.length 0 (by omega) (fun hall2 => ?_)
      rw [List.drop_zero] at hall2
      simp only [E_X11_allSeenIsSo_116, E_X11_allSeenIsSo_119, gnk_i, gnk_r, gnk_n, gi_1, Nat.reduceLT, if_true, if_false]
      exact hi2 s1 _ (by omega) hS1 hT1 hR1 (fun r hr hrh => by
        by_cases er : r.2.1 = h
        · exact hall2 r hr er
        · exact hall r hr (by omega))
    rw [E_X11_allSeenIsSo_37]
    by_cases h0 : h = 0
    · subst h0
      have e0 : nI 0 ≤ 0 := by decide
      simp only [E_X11_allSeenIsSo_0, E_X11_allSeenIsSo_1, E_X11_allSeenIsSo_2, E_X11_allSeenIsSo_3, E_X11_allSeenIsSo_5, E_X11_allSeenIsSo_6, E_X11_allSeenIsSo_9, E_X11_allSeenIsSo_12, E_X11_allSeenIsSo_15, E_X11_allSeenIsSo_16, E_X11_allSeenIsSo_17, E_X11_allSeenIsSo_20, E_X11_allSeenIsSo_23, E_X11_allSeenIsSo_24, E_X11_allSeenIsSo_25, E_X11_allSeenIsSo_28, E_X11_allSeenIsSo_29, E_X11_allSeenIsSo_32, E_X11_allSeenIsSo_36, E_X11_allSeenIsSo_38, E_X11_allSeenIsSo_39, E_X11_allSeenIsSo_42, E_X11_allSeenIsSo_43, E_X11_allSeenIsSo_46, E_X11_allSeenIsSo_47, E_X11_allSeenIsSo_50, E_X11_allSeenIsSo_51, E_X11_allSeenIsSo_55, E_X11_allSeenIsSo_57, E_X11_allSeenIsSo_58, E_X11_allSeenIsSo_61, E_X11_allSeenIsSo_64, E_X11_allSeenIsSo_67, E_X11_allSeenIsSo_68, E_X11_allSeenIsSo_71, E_X11_allSeenIsSo_74, E_X11_allSeenIsSo_75, E_X11_allSeenIsSo_76, E_X11_allSeenIsSo_77, E_X11_allSeenIsSo_80, E_X11_allSeenIsSo_81, E_X11_allSeenIsSo_84, E_X11_allSeenIsSo_85, E_X11_allSeenIsSo_88, E_X11_allSeenIsSo_91, E_X11_allSeenIsSo_92, E_X11_allSeenIsSo_93, E_X11_allSeenIsSo_94, E_X11_allSeenIsSo_97, E_X11_allSeenIsSo_100, E_X11_allSeenIsSo_101, E_X11_allSeenIsSo_102, E_X11_allSeenIsSo_105, E_X11_allSeenIsSo_108, E_X11_allSeenIsSo_109, E_X11_allSeenIsSo_110, E_X11_allSeenIsSo_113, E_X11_allSeenIsSo_119, E_X11_allSeenIsSo_122, E_X11_allSeenIsSo_123, e, e0, gnk_i, gnk_r, gnk_n, gi_1, Nat.reduceLT, if_true, if_false]
      exact inner s hT hS hR
    · have e0 : ¬ nI h ≤ 0 := nI_nle (by omega) (by omega)
      have eh : gA_go h q = gA_go 1 (gA_go (h - 1) q) := by
        rw [← gA_go_add]
        congr 1
        omega
      have gn1 : (gA_go (h - 1) q).1 = (q.1.1 + (h - 1), q.1.2) := gA_go_n
      simp only [E_X11_allSeenIsSo_0, E_X11_allSeenIsSo_1, E_X11_allSeenIsSo_2, E_X11_allSeenIsSo_3, E_X11_allSeenIsSo_5, E_X11_allSeenIsSo_6, E_X11_allSeenIsSo_9, E_X11_allSeenIsSo_12, E_X11_allSeenIsSo_15, E_X11_allSeenIsSo_16, E_X11_allSeenIsSo_17, E_X11_allSeenIsSo_20, E_X11_allSeenIsSo_23, E_X11_allSeenIsSo_24, E_X11_allSeenIsSo_25, E_X11_allSeenIsSo_28, E_X11_allSeenIsSo_29, E_X11_allSeenIsSo_32, E_X11_allSeenIsSo_36, E_X11_allSeenIsSo_38, E_X11_allSeenIsSo_39, E_X11_allSeenIsSo_42, E_X11_allSeenIsSo_43, E_X11_allSeenIsSo_46, E_X11_allSeenIsSo_47, E_X11_allSeenIsSo_50, E_X11_allSeenIsSo_51, E_X11_allSeenIsSo_55, E_X11_allSeenIsSo_57, E_X11_allSeenIsSo_58, E_X11_allSeenIsSo_61, E_X11_allSeenIsSo_64, E_X11_allSeenIsSo_67, E_X11_allSeenIsSo_68, E_X11_allSeenIsSo_71, E_X11_allSeenIsSo_74, E_X11_allSeenIsSo_75, E_X11_allSeenIsSo_76, E_X11_allSeenIsSo_77, E_X11_allSeenIsSo_80, E_X11_allSeenIsSo_81, E_X11_allSeenIsSo_84, E_X11_allSeenIsSo_85, E_X11_allSeenIsSo_88, E_X11_allSeenIsSo_91, E_X11_allSeenIsSo_92, E_X11_allSeenIsSo_93, E_X11_allSeenIsSo_94, E_X11_allSeenIsSo_97, E_X11_allSeenIsSo_100, E_X11_allSeenIsSo_101, E_X11_allSeenIsSo_102, E_X11_allSeenIsSo_105, E_X11_allSeenIsSo_108, E_X11_allSeenIsSo_109, E_X11_allSeenIsSo_110, E_X11_allSeenIsSo_113, E_X11_allSeenIsSo_119, E_X11_allSeenIsSo_122, E_X11_allSeenIsSo_123, rk_0, rc_101, rg_0_1, e, e0, List.map_nil, List.map_cons, List.sum_cons, List.sum_nil, gcat_i, gcat_r, gcat_l, Nat.reduceAdd, Nat.reduceLeDiff, Nat.zero_le, Option.toList, List.cons_append, List.nil_append, gnk_i, gnk_r, gnk_n, gi_1, Nat.reduceLT, if_true, if_false]
      rw [show (1 : Int32) = nI 1 from rfl]
      refine gy_go hR (gA_go_ok hk (by omega)) (by rw [gn1]; show q.1.1 + (h - 1) + 1 < _; omega) (fun s1 hF1 hR1 => ?_)
      rw [← eh] at hR1
      simp only [List.map_nil, List.map_cons, List.sum_cons, List.sum_nil, gcat_i, gcat_r, gcat_l, Nat.reduceAdd, Nat.reduceLeDiff, Nat.zero_le, Option.toList, List.cons_append, List.nil_append]
      have hT1 : cT s0 s1 := cT_trans hT (cT_F hF1)
      exact inner s1 hT1 (cSn_T hS (cT_F hF1)) hR1
theorem c_allSeen {s0 : gm_S} (hk : gA_ok q) (hh : q.1.1 ≤ 9999) (hl : gSn_ok q.1.2.2 l) (hS : cSn s l) (hT : cT s0 s) (hR : gR s 101 f m q) (hq : ∀ s', cT s0 s' → Q (some (.int (gb_i (a_seen q l)))) (gm_m s')) : gc_X w (d + 5) 107 0 [some (.ref 0), none, none, none] [] (gm_m s) Q := by
  have h12 : ∀ r, r ∈ l → r.2.1 ≤ 12 := fun r hr => (hl r hr).2.1
  have hm := c_max_loop (w := w) (d := d + 5) (Q := Q) hS l.length 0 0 none (by omega) (by omega) h12
  rw [List.drop_zero, nI_0] at hm
  simp only [E_X11_allSeenIsSo_0, E_X11_allSeenIsSo_1, E_X11_allSeenIsSo_2, E_X11_allSeenIsSo_3, gnk_i, gnk_r, gnk_n, gi_1, Nat.reduceLT, if_true, if_false]
  rw [hm]
  simp only [E_X11_allSeenIsSo_35, E_X11_allSeenIsSo_36, gnk_i, gnk_r, gnk_n, gi_1, Nat.reduceLT, if_true, if_false]
  rw [← nI_0]
  exact c_seen_loop hk hh hl (gMx_le (by omega) h12) hq (gMx l 0 + 1) 0 s _ (by omega) hS hT hR (fun r _ h => by omega)
end
/-- from the lowest up: how many, the first -/
def gCa (f : Nat → Bool) : Nat → Nat → Nat
  | 0, _ => 0
  | n + 1, t => (if f t then 1 else 0) + gCa f n (t + 1)
theorem gCa_succ {f : Nat → Bool} : ∀ {n t : Nat}, gCa f (n + 1) t = gCa f n t + (if f (t + n) then 1 else 0)
  | 0, t => by simp [gCa]
  | n + 1, t => by
    rw [gCa, gCa_succ (n := n) (t := t + 1)]
    have e : t + 1 + n = t + (n + 1) := by omega
    rw [e]
    show _ = (if f t then 1 else 0) + gCa f n (t + 1) + _
    omega
theorem gp_first_succ {f : Nat → Bool} : ∀ {n t : Nat}, gp_first f (n + 1) t = match gp_first f n t with
    | some r => some r
    | none => if f (t + n) then some (t + n) else none
  | 0, t => by simp [gp_first]
  | n + 1, t => by
    rw [gp_first]
    by_cases h : f t = true
    · rw [if_pos h, gp_first, if_pos h]
    · rw [if_neg h, gp_first_succ (n := n) (t := t + 1), gp_first, if_neg h]
      have e : t + 1 + n = t + (n + 1) := by omega
      rw [e]
theorem gD_eq {f : Nat → Bool} : ∀ {m : Nat} {q : Nat × Int32}, gD f m q = (q.1 + gCa f m 0, gp_i (gp_first f m 0) q.2)
  | 0, q => rfl
  | m + 1, q => by
    rw [gD, gD_eq, gCa_succ, gp_first_succ, Nat.zero_add]
    cases hf : f m with
    | true =>
      rw [if_pos rfl, if_pos rfl, if_pos rfl]
      cases gp_first f m 0 with
      | none => exact Prod.ext (by show q.1 + 1 + _ = _; omega) rfl
      | some r => exact Prod.ext (by show q.1 + 1 + _ = _; omega) rfl
    | false =>
      rw [if_neg (by decide), if_neg (by decide), if_neg (by decide)]
      cases gp_first f m 0 with
      | none => rfl
      | some r => rfl
section
variable {w : Nat × (Nat → Int32)} {d f m t : Nat} {s : gm_S} {p : gA} {Q : Option Value → gc_M → Prop} {l : List gTr}
def a_num (g : Nat → Bool) (b : Bool) (n : Nat) : Int32 := if b then gp_i (gp_first g n 0) (-5) else nI (gCa g n 0)
theorem c_gf_loop {s0 : gm_S} {b : Bool} (ht : t < p.1.2.2) (hk : gA_ok p) (hh : p.1.1 ≤ 9999) (hl : gSn_ok p.1.2.2 l) (hq : ∀ s', cT s0 s' → Q (some (.int (a_num (a_gf p l t) b 100))) (gm_m s')) : ∀ (j n c : Nat) (s : gm_S), n + j = 100 → c ≤ n → cT s0 s → cSn s l → gR s 83 f m p → (b = true → gp_first (a_gf p l t) j n = gp_first (a_gf p l t) 100 0) → c + gCa (a_gf p l t) j n = gCa (a_gf p l t) 100 0 → gc_X w (d + 6) 106 20 [some (.ref 0), some (.int (nI t)), some (.int (-1)), some (.int (gb_i b)), some (.int 99), some (.int (nI c)), some (.int (nI n))] [] (gm_m s) Q := by
  intro j
  have k6 := hk.1
  have k8 := hk.2.1
  have i3 : vp_in (nI t) 8 := vp_in_nI (by omega) (by omega)
  have i4 : (nI t).toNatClampNeg = t := nI_clamp (by omega)
  have hm1 : ¬ nI t = -1 := nI_nm1 (by omega)
  induction j with
  | zero =>
    intro n c s hn hc hT hS hR he1 he2
    have e : (99 : Int32) < nI n := nI_lt (a := 99) (by omega) (by omega)
    have hq' := hq s hT
    unfold a_num at hq'
    rw [E_X11_numbersThatFit_20]
    cases b with
    | true =>
      rw [if_pos rfl, ← he1 rfl] at hq'
      simp only [E_X11_numbersThatFit_0, E_X11_numbersThatFit_1, E_X11_numbersThatFit_2, E_X11_numbersThatFit_5, E_X11_numbersThatFit_7, E_X11_numbersThatFit_10, E_X11_numbersThatFit_12, E_X11_numbersThatFit_14, E_X11_numbersThatFit_15, E_X11_numbersThatFit_17, E_X11_numbersThatFit_18, E_X11_numbersThatFit_22, E_X11_numbersThatFit_24, E_X11_numbersThatFit_27, E_X11_numbersThatFit_28, E_X11_numbersThatFit_31, E_X11_numbersThatFit_32, E_X11_numbersThatFit_35, E_X11_numbersThatFit_38, E_X11_numbersThatFit_39, E_X11_numbersThatFit_40, E_X11_numbersThatFit_43, E_X11_numbersThatFit_44, E_X11_numbersThatFit_47, E_X11_numbersThatFit_50, E_X11_numbersThatFit_51, E_X11_numbersThatFit_53, E_X11_numbersThatFit_54, E_X11_numbersThatFit_57, E_X11_numbersThatFit_58, E_X11_numbersThatFit_61, E_X11_numbersThatFit_64, E_X11_numbersThatFit_65, E_X11_numbersThatFit_67, E_X11_numbersThatFit_68, E_X11_numbersThatFit_69, E_X11_numbersThatFit_72, E_X11_numbersThatFit_75, E_X11_numbersThatFit_78, E_X11_numbersThatFit_79, E_X11_numbersThatFit_82, E_X11_numbersThatFit_84, E_X11_numbersThatFit_85, E_X11_numbersThatFit_88, E_X11_numbersThatFit_91, E_X11_numbersThatFit_94, E_X11_numbersThatFit_95, E_X11_numbersThatFit_98, E_X11_numbersThatFit_100, E_X11_numbersThatFit_103, E_X11_numbersThatFit_105, e, gb_1, g1_0, gnk_i, gnk_r, gnk_n, gi_1, Nat.reduceLT, if_true, if_false]
      exact hq'
    | false =>
      rw [if_neg (by decide), ← he2] at hq'
      simp only [E_X11_numbersThatFit_0, E_X11_numbersThatFit_1, E_X11_numbersThatFit_2, E_X11_numbersThatFit_5, E_X11_numbersThatFit_7, E_X11_numbersThatFit_10, E_X11_numbersThatFit_12, E_X11_numbersThatFit_14, E_X11_numbersThatFit_15, E_X11_numbersThatFit_17, E_X11_numbersThatFit_18, E_X11_numbersThatFit_22, E_X11_numbersThatFit_24, E_X11_numbersThatFit_27, E_X11_numbersThatFit_28, E_X11_numbersThatFit_31, E_X11_numbersThatFit_32, E_X11_numbersThatFit_35, E_X11_numbersThatFit_38, E_X11_numbersThatFit_39, E_X11_numbersThatFit_40, E_X11_numbersThatFit_43, E_X11_numbersThatFit_44, E_X11_numbersThatFit_47, E_X11_numbersThatFit_50, E_X11_numbersThatFit_51, E_X11_numbersThatFit_53, E_X11_numbersThatFit_54, E_X11_numbersThatFit_57, E_X11_numbersThatFit_58, E_X11_numbersThatFit_61, E_X11_numbersThatFit_64, E_X11_numbersThatFit_65, E_X11_numbersThatFit_67, E_X11_numbersThatFit_68, E_X11_numbersThatFit_69, E_X11_numbersThatFit_72, E_X11_numbersThatFit_75, E_X11_numbersThatFit_78, E_X11_numbersThatFit_79, E_X11_numbersThatFit_82, E_X11_numbersThatFit_84, E_X11_numbersThatFit_85, E_X11_numbersThatFit_88, E_X11_numbersThatFit_91, E_X11_numbersThatFit_94, E_X11_numbersThatFit_95, E_X11_numbersThatFit_98, E_X11_numbersThatFit_100, E_X11_numbersThatFit_103, E_X11_numbersThatFit_105, e, gb_0, gnk_i, gnk_r, gnk_n, gi_1, Nat.reduceLT, if_true, if_false]
      exact hq'
  | succ j ih =>
    intro n c s hn hc hT hS hR he1 he2
    have e : ¬ (99 : Int32) < nI n := nI_nlt (a := 99) (by omega) (by omega)
    have hi := ih (n + 1)
    rw [nI_succ] at hi
    rw [gp_first] at he1
    rw [gCa] at he2
    rw [E_X11_numbersThatFit_20]
    simp only [E_X11_numbersThatFit_0, E_X11_numbersThatFit_1, E_X11_numbersThatFit_2, E_X11_numbersThatFit_5, E_X11_numbersThatFit_7, E_X11_numbersThatFit_10, E_X11_numbersThatFit_12, E_X11_numbersThatFit_14, E_X11_numbersThatFit_15, E_X11_numbersThatFit_17, E_X11_numbersThatFit_18, E_X11_numbersThatFit_22, E_X11_numbersThatFit_24, E_X11_numbersThatFit_27, E_X11_numbersThatFit_28, E_X11_numbersThatFit_31, E_X11_numbersThatFit_32, E_X11_numbersThatFit_35, E_X11_numbersThatFit_38, E_X11_numbersThatFit_39, E_X11_numbersThatFit_40, E_X11_numbersThatFit_43, E_X11_numbersThatFit_44, E_X11_numbersThatFit_47, E_X11_numbersThatFit_50, E_X11_numbersThatFit_51, E_X11_numbersThatFit_53, E_X11_numbersThatFit_54, E_X11_numbersThatFit_57, E_X11_numbersThatFit_58, E_X11_numbersThatFit_61, E_X11_numbersThatFit_64, E_X11_numbersThatFit_65, E_X11_numbersThatFit_67, E_X11_numbersThatFit_68, E_X11_numbersThatFit_69, E_X11_numbersThatFit_72, E_X11_numbersThatFit_75, E_X11_numbersThatFit_78, E_X11_numbersThatFit_79, E_X11_numbersThatFit_82, E_X11_numbersThatFit_84, E_X11_numbersThatFit_85, E_X11_numbersThatFit_88, E_X11_numbersThatFit_91, E_X11_numbersThatFit_94, E_X11_numbersThatFit_95, E_X11_numbersThatFit_98, E_X11_numbersThatFit_100, E_X11_numbersThatFit_103, E_X11_numbersThatFit_105, rk_0, rc_101, rg_0_0, rg_0_1, e, List.map_nil, List.map_cons, List.sum_cons, List.sum_nil, gcat_i, gcat_r, gcat_l, Nat.reduceAdd, Nat.reduceLeDiff, Nat.zero_le, Option.toList, List.cons_append, List.nil_append, gnk_i, gnk_r, gnk_n, gi_1, Nat.reduceLT, if_true, if_false]
    refine c_copy hR hk (fun s1 hT1 hR1 hR1' => ?_)
    have hR2 := gR_set (o := 12) (j := t) (x := nI n) hR1' (by decide) (by decide)
    have hT2 : cT s (gm_si s1 113 t (nI n)) := cT_si hT1 (by omega)
    simp only [E_X11_numbersThatFit_0, E_X11_numbersThatFit_1, E_X11_numbersThatFit_2, E_X11_numbersThatFit_5, E_X11_numbersThatFit_7, E_X11_numbersThatFit_10, E_X11_numbersThatFit_12, E_X11_numbersThatFit_14, E_X11_numbersThatFit_15, E_X11_numbersThatFit_17, E_X11_numbersThatFit_18, E_X11_numbersThatFit_22, E_X11_numbersThatFit_24, E_X11_numbersThatFit_27, E_X11_numbersThatFit_28, E_X11_numbersThatFit_31, E_X11_numbersThatFit_32, E_X11_numbersThatFit_35, E_X11_numbersThatFit_38, E_X11_numbersThatFit_39, E_X11_numbersThatFit_40, E_X11_numbersThatFit_43, E_X11_numbersThatFit_44, E_X11_numbersThatFit_47, E_X11_numbersThatFit_50, E_X11_numbersThatFit_51, E_X11_numbersThatFit_53, E_X11_numbersThatFit_54, E_X11_numbersThatFit_57, E_X11_numbersThatFit_58, E_X11_numbersThatFit_61, E_X11_numbersThatFit_64, E_X11_numbersThatFit_65, E_X11_numbersThatFit_67, E_X11_numbersThatFit_68, E_X11_numbersThatFit_69, E_X11_numbersThatFit_72, E_X11_numbersThatFit_75, E_X11_numbersThatFit_78, E_X11_numbersThatFit_79, E_X11_numbersThatFit_82, E_X11_numbersThatFit_84, E_X11_numbersThatFit_85, E_X11_numbersThatFit_88, E_X11_numbersThatFit_91, E_X11_numbersThatFit_94, E_X11_numbersThatFit_95, E_X11_numbersThatFit_98, E_X11_numbersThatFit_100, E_X11_numbersThatFit_103, E_X11_numbersThatFit_105, rk_0, rk_101, rc_0, rg_0_1, rg_101_10, ra_113, rs_113, i3, i4, hm1, List.map_nil, List.map_cons, List.sum_cons, List.sum_nil, gcat_i, gcat_r, gcat_l, Nat.reduceAdd, Nat.reduceLeDiff, Nat.zero_le, Option.toList, List.cons_append, List.nil_append, gnk_i, gnk_r, gnk_n, gi_1, Nat.reduceLT, if_true, if_false]
    refine c_allSeen (s0 := s) (q := gA_set p 12 t (nI n)) (gA_ok_set hk (by omega)) hh hl (cSn_T hS hT2) hT2 hR2 (fun s3 hT3 => ?_)
    have ef : a_seen (gA_set p 12 t (nI n)) l = a_gf p l t n := rfl
    rw [ef]
    cases hf : a_gf p l t n with
    | true =>
      rw [hf, if_pos rfl] at he1 he2
      cases b with
      | true =>
        have hq' := hq s3 (cT_trans hT hT3)
        unfold a_num at hq'
        rw [if_pos rfl, ← he1 rfl] at hq'
        simp only [E_X11_numbersThatFit_0, E_X11_numbersThatFit_1, E_X11_numbersThatFit_2, E_X11_numbersThatFit_5, E_X11_numbersThatFit_7, E_X11_numbersThatFit_10, E_X11_numbersThatFit_12, E_X11_numbersThatFit_14, E_X11_numbersThatFit_15, E_X11_numbersThatFit_17, E_X11_numbersThatFit_18, E_X11_numbersThatFit_22, E_X11_numbersThatFit_24, E_X11_numbersThatFit_27, E_X11_numbersThatFit_28, E_X11_numbersThatFit_31, E_X11_numbersThatFit_32, E_X11_numbersThatFit_35, E_X11_numbersThatFit_38, E_X11_numbersThatFit_39, E_X11_numbersThatFit_40, E_X11_numbersThatFit_43, E_X11_numbersThatFit_44, E_X11_numbersThatFit_47, E_X11_numbersThatFit_50, E_X11_numbersThatFit_51, E_X11_numbersThatFit_53, E_X11_numbersThatFit_54, E_X11_numbersThatFit_57, E_X11_numbersThatFit_58, E_X11_numbersThatFit_61, E_X11_numbersThatFit_64, E_X11_numbersThatFit_65, E_X11_numbersThatFit_67, E_X11_numbersThatFit_68, E_X11_numbersThatFit_69, E_X11_numbersThatFit_72, E_X11_numbersThatFit_75, E_X11_numbersThatFit_78, E_X11_numbersThatFit_79, E_X11_numbersThatFit_82, E_X11_numbersThatFit_84, E_X11_numbersThatFit_85, E_X11_numbersThatFit_88, E_X11_numbersThatFit_91, E_X11_numbersThatFit_94, E_X11_numbersThatFit_95, E_X11_numbersThatFit_98, E_X11_numbersThatFit_100, E_X11_numbersThatFit_103, E_X11_numbersThatFit_105, gb_1, g1_0, List.map_nil, List.map_cons, List.sum_cons, List.sum_nil, gcat_i, gcat_r, gcat_l, Nat.reduceAdd, Nat.reduceLeDiff, Nat.zero_le, Option.toList, List.cons_append, List.nil_append, gnk_i, gnk_r, gnk_n, gi_1, Nat.reduceLT, if_true, if_false]
        exact hq'
      | false =>
        simp only [E_X11_numbersThatFit_0, E_X11_numbersThatFit_1, E_X11_numbersThatFit_2, E_X11_numbersThatFit_5, E_X11_numbersThatFit_7, E_X11_numbersThatFit_10, E_X11_numbersThatFit_12, E_X11_numbersThatFit_14, E_X11_numbersThatFit_15, E_X11_numbersThatFit_17, E_X11_numbersThatFit_18, E_X11_numbersThatFit_22, E_X11_numbersThatFit_24, E_X11_numbersThatFit_27, E_X11_numbersThatFit_28, E_X11_numbersThatFit_31, E_X11_numbersThatFit_32, E_X11_numbersThatFit_35, E_X11_numbersThatFit_38, E_X11_numbersThatFit_39, E_X11_numbersThatFit_40, E_X11_numbersThatFit_43, E_X11_numbersThatFit_44, E_X11_numbersThatFit_47, E_X11_numbersThatFit_50, E_X11_numbersThatFit_51, E_X11_numbersThatFit_53, E_X11_numbersThatFit_54, E_X11_numbersThatFit_57, E_X11_numbersThatFit_58, E_X11_numbersThatFit_61, E_X11_numbersThatFit_64, E_X11_numbersThatFit_65, E_X11_numbersThatFit_67, E_X11_numbersThatFit_68, E_X11_numbersThatFit_69, E_X11_numbersThatFit_72, E_X11_numbersThatFit_75, E_X11_numbersThatFit_78, E_X11_numbersThatFit_79, E_X11_numbersThatFit_82, E_X11_numbersThatFit_84, E_X11_numbersThatFit_85, E_X11_numbersThatFit_88, E_X11_numbersThatFit_91, E_X11_numbersThatFit_94, E_X11_numbersThatFit_95, E_X11_numbersThatFit_98, E_X11_numbersThatFit_100, E_X11_numbersThatFit_103, E_X11_numbersThatFit_105, gb_0, gb_1, g1_0, List.map_nil, List.map_cons, List.sum_cons, List.sum_nil, gcat_i, gcat_r, gcat_l, Nat.reduceAdd, Nat.reduceLeDiff, Nat.zero_le, Option.toList, List.cons_append, List.nil_append, gnk_i, gnk_r, gnk_n, gi_1, Nat.reduceLT, if_true, if_false]
        rw [← nI_succ c]
        exact hi (c + 1) s3 (by omega) (by omega) (cT_trans hT hT3) (cSn_T hS hT3) (gR_T hR k6 hT3) (fun e => by cases e) (by omega)
    | false =>
      rw [hf, if_neg (by decide)] at he1 he2
      simp only [E_X11_numbersThatFit_0, E_X11_numbersThatFit_1, E_X11_numbersThatFit_2, E_X11_numbersThatFit_5, E_X11_numbersThatFit_7, E_X11_numbersThatFit_10, E_X11_numbersThatFit_12, E_X11_numbersThatFit_14, E_X11_numbersThatFit_15, E_X11_numbersThatFit_17, E_X11_numbersThatFit_18, E_X11_numbersThatFit_22, E_X11_numbersThatFit_24, E_X11_numbersThatFit_27, E_X11_numbersThatFit_28, E_X11_numbersThatFit_31, E_X11_numbersThatFit_32, E_X11_numbersThatFit_35, E_X11_numbersThatFit_38, E_X11_numbersThatFit_39, E_X11_numbersThatFit_40, E_X11_numbersThatFit_43, E_X11_numbersThatFit_44, E_X11_numbersThatFit_47, E_X11_numbersThatFit_50, E_X11_numbersThatFit_51, E_X11_numbersThatFit_53, E_X11_numbersThatFit_54, E_X11_numbersThatFit_57, E_X11_numbersThatFit_58, E_X11_numbersThatFit_61, E_X11_numbersThatFit_64, E_X11_numbersThatFit_65, E_X11_numbersThatFit_67, E_X11_numbersThatFit_68, E_X11_numbersThatFit_69, E_X11_numbersThatFit_72, E_X11_numbersThatFit_75, E_X11_numbersThatFit_78, E_X11_numbersThatFit_79, E_X11_numbersThatFit_82, E_X11_numbersThatFit_84, E_X11_numbersThatFit_85, E_X11_numbersThatFit_88, E_X11_numbersThatFit_91, E_X11_numbersThatFit_94, E_X11_numbersThatFit_95, E_X11_numbersThatFit_98, E_X11_numbersThatFit_100, E_X11_numbersThatFit_103, E_X11_numbersThatFit_105, gb_0, List.map_nil, List.map_cons, List.sum_cons, List.sum_nil, gcat_i, gcat_r, gcat_l, Nat.reduceAdd, Nat.reduceLeDiff, Nat.zero_le, Option.toList, List.cons_append, List.nil_append, gnk_i, gnk_r, gnk_n, gi_1, Nat.reduceLT, if_true, if_false]
      exact hi c s3 (by omega) (by omega) (cT_trans hT hT3) (cSn_T hS hT3) (gR_T hR k6 hT3) he1 (by omega)
theorem c_griefs {b : Bool} (ht : t < p.1.2.2) (hR : gR s 83 f m p) (hk : gA_ok p) (hh : p.1.1 ≤ 9999) (hl : gSn_ok p.1.2.2 l) (hS : cSn s l) (hq : ∀ s', cT s s' → Q (some (.int (a_griefs p l t (!b)))) (gm_m s')) : gc_X w (d + 6) 106 0 [some (.ref 0), some (.int (nI t)), some (.int (-1)), some (.int (gb_i b)), none, none, none] [] (gm_m s) Q := by
  have k8 := hk.2.1
  have hm1 : ¬ nI t = -1 := nI_nm1 (by omega)
  simp only [E_X11_numbersThatFit_0, E_X11_numbersThatFit_1, E_X11_numbersThatFit_2, E_X11_numbersThatFit_5, E_X11_numbersThatFit_7, E_X11_numbersThatFit_10, E_X11_numbersThatFit_12, E_X11_numbersThatFit_14, E_X11_numbersThatFit_15, E_X11_numbersThatFit_17, E_X11_numbersThatFit_18, E_X11_numbersThatFit_22, E_X11_numbersThatFit_24, E_X11_numbersThatFit_27, E_X11_numbersThatFit_28, E_X11_numbersThatFit_31, E_X11_numbersThatFit_32, E_X11_numbersThatFit_35, E_X11_numbersThatFit_38, E_X11_numbersThatFit_39, E_X11_numbersThatFit_40, E_X11_numbersThatFit_43, E_X11_numbersThatFit_44, E_X11_numbersThatFit_47, E_X11_numbersThatFit_50, E_X11_numbersThatFit_51, E_X11_numbersThatFit_53, E_X11_numbersThatFit_54, E_X11_numbersThatFit_57, E_X11_numbersThatFit_58, E_X11_numbersThatFit_61, E_X11_numbersThatFit_64, E_X11_numbersThatFit_65, E_X11_numbersThatFit_67, E_X11_numbersThatFit_68, E_X11_numbersThatFit_69, E_X11_numbersThatFit_72, E_X11_numbersThatFit_75, E_X11_numbersThatFit_78, E_X11_numbersThatFit_79, E_X11_numbersThatFit_82, E_X11_numbersThatFit_84, E_X11_numbersThatFit_85, E_X11_numbersThatFit_88, E_X11_numbersThatFit_91, E_X11_numbersThatFit_94, E_X11_numbersThatFit_95, E_X11_numbersThatFit_98, E_X11_numbersThatFit_100, E_X11_numbersThatFit_103, E_X11_numbersThatFit_105, hm1, gnk_i, gnk_r, gnk_n, gi_1, Nat.reduceLT, if_true, if_false]
  rw [← nI_0]
  refine c_gf_loop (s0 := s) ht hk hh hl (fun s' hT' => ?_) 100 0 0 s (by omega) (by omega) cT_refl hS hR (fun _ => rfl) (by omega)
  have hq' := hq s' hT'
  unfold a_griefs at hq'
  unfold a_num
  rw [gD_eq] at hq'
  cases b with
  | true => exact hq'
  | false =>
    rw [Nat.zero_add] at hq'
    exact hq'
theorem c_cf_loop {s0 : gm_S} {b : Bool} {u : Nat} (hu : u < p.1.2.1) (hk : gA_ok p) (hh : p.1.1 ≤ 9999) (hl : gSn_ok p.1.2.2 l) (hq : ∀ s', cT s0 s' → Q (some (.int (a_num (a_cf p l u) b 10))) (gm_m s')) : ∀ (j n c : Nat) (s : gm_S), n + j = 10 → c ≤ n → cT s0 s → cSn s l → gR s 83 f m p → (b = true → gp_first (a_cf p l u) j n = gp_first (a_cf p l u) 10 0) → c + gCa (a_cf p l u) j n = gCa (a_cf p l u) 10 0 → gc_X w (d + 6) 106 20 [some (.ref 0), some (.int (-1)), some (.int (nI u)), some (.int (gb_i b)), some (.int 9), some (.int (nI c)), some (.int (nI n))] [] (gm_m s) Q := by
  intro j
  have k6 := hk.1
  have k8 := hk.2.1
  have i3 : vp_in (nI u) 6 := vp_in_nI (by omega) (by omega)
  have i4 : (nI u).toNatClampNeg = u := nI_clamp (by omega)
  induction j with
  | zero =>
    intro n c s hn hc hT hS hR he1 he2
    have e : (9 : Int32) < nI n := nI_lt (a := 9) (by omega) (by omega)
    have hq' := hq s hT
    unfold a_num at hq'
    rw [E_X11_numbersThatFit_20]
    cases b with
    | true =>
      rw [if_pos rfl, ← he1 rfl] at hq'
      simp only [E_X11_numbersThatFit_0, E_X11_numbersThatFit_1, E_X11_numbersThatFit_2, E_X11_numbersThatFit_5, E_X11_numbersThatFit_7, E_X11_numbersThatFit_10, E_X11_numbersThatFit_12, E_X11_numbersThatFit_14, E_X11_numbersThatFit_15, E_X11_numbersThatFit_17, E_X11_numbersThatFit_18, E_X11_numbersThatFit_22, E_X11_numbersThatFit_24, E_X11_numbersThatFit_27, E_X11_numbersThatFit_28, E_X11_numbersThatFit_31, E_X11_numbersThatFit_32, E_X11_numbersThatFit_35, E_X11_numbersThatFit_38, E_X11_numbersThatFit_39, E_X11_numbersThatFit_40, E_X11_numbersThatFit_43, E_X11_numbersThatFit_44, E_X11_numbersThatFit_47, E_X11_numbersThatFit_50, E_X11_numbersThatFit_51, E_X11_numbersThatFit_53, E_X11_numbersThatFit_54, E_X11_numbersThatFit_57, E_X11_numbersThatFit_58, E_X11_numbersThatFit_61, E_X11_numbersThatFit_64, E_X11_numbersThatFit_65, E_X11_numbersThatFit_67, E_X11_numbersThatFit_68, E_X11_numbersThatFit_69, E_X11_numbersThatFit_72, E_X11_numbersThatFit_75, E_X11_numbersThatFit_78, E_X11_numbersThatFit_79, E_X11_numbersThatFit_82, E_X11_numbersThatFit_84, E_X11_numbersThatFit_85, E_X11_numbersThatFit_88, E_X11_numbersThatFit_91, E_X11_numbersThatFit_94, E_X11_numbersThatFit_95, E_X11_numbersThatFit_98, E_X11_numbersThatFit_100, E_X11_numbersThatFit_103, E_X11_numbersThatFit_105, e, gb_1, g1_0, gnk_i, gnk_r, gnk_n, gi_1, Nat.reduceLT, if_true, if_false]
      exact hq'
    | false =>
      rw [if_neg (by decide), ← he2] at hq'
      simp only [E_X11_numbersThatFit_0, E_X11_numbersThatFit_1, E_X11_numbersThatFit_2, E_X11_numbersThatFit_5, E_X11_numbersThatFit_7, E_X11_numbersThatFit_10, E_X11_numbersThatFit_12, E_X11_numbersThatFit_14, E_X11_numbersThatFit_15, E_X11_numbersThatFit_17, E_X11_numbersThatFit_18, E_X11_numbersThatFit_22, E_X11_numbersThatFit_24, E_X11_numbersThatFit_27, E_X11_numbersThatFit_28, E_X11_numbersThatFit_31, E_X11_numbersThatFit_32, E_X11_numbersThatFit_35, E_X11_numbersThatFit_38, E_X11_numbersThatFit_39, E_X11_numbersThatFit_40, E_X11_numbersThatFit_43, E_X11_numbersThatFit_44, E_X11_numbersThatFit_47, E_X11_numbersThatFit_50, E_X11_numbersThatFit_51, E_X11_numbersThatFit_53, E_X11_numbersThatFit_54, E_X11_numbersThatFit_57, E_X11_numbersThatFit_58, E_X11_numbersThatFit_61, E_X11_numbersThatFit_64, E_X11_numbersThatFit_65, E_X11_numbersThatFit_67, E_X11_numbersThatFit_68, E_X11_numbersThatFit_69, E_X11_numbersThatFit_72, E_X11_numbersThatFit_75, E_X11_numbersThatFit_78, E_X11_numbersThatFit_79, E_X11_numbersThatFit_82, E_X11_numbersThatFit_84, E_X11_numbersThatFit_85, E_X11_numbersThatFit_88, E_X11_numbersThatFit_91, E_X11_numbersThatFit_94, E_X11_numbersThatFit_95, E_X11_numbersThatFit_98, E_X11_numbersThatFit_100, E_X11_numbersThatFit_103, E_X11_numbersThatFit_105, e, gb_0, gnk_i, gnk_r, gnk_n, gi_1, Nat.reduceLT, if_true, if_false]
      exact hq'
  | succ j ih =>
    intro n c s hn hc hT hS hR he1 he2
    have e : ¬ (9 : Int32) < nI n := nI_nlt (a := 9) (by omega) (by omega)
    have hi := ih (n + 1)
    rw [nI_succ] at hi
    rw [gp_first] at he1
    rw [gCa] at he2
    rw [E_X11_numbersThatFit_20]
    simp only [E_X11_numbersThatFit_0, E_X11_numbersThatFit_1, E_X11_numbersThatFit_2, E_X11_numbersThatFit_5, E_X11_numbersThatFit_7, E_X11_numbersThatFit_10, E_X11_numbersThatFit_12, E_X11_numbersThatFit_14, E_X11_numbersThatFit_15, E_X11_numbersThatFit_17, E_X11_numbersThatFit_18, E_X11_numbersThatFit_22, E_X11_numbersThatFit_24, E_X11_numbersThatFit_27, E_X11_numbersThatFit_28, E_X11_numbersThatFit_31, E_X11_numbersThatFit_32, E_X11_numbersThatFit_35, E_X11_numbersThatFit_38, E_X11_numbersThatFit_39, E_X11_numbersThatFit_40, E_X11_numbersThatFit_43, E_X11_numbersThatFit_44, E_X11_numbersThatFit_47, E_X11_numbersThatFit_50, E_X11_numbersThatFit_51, E_X11_numbersThatFit_53, E_X11_numbersThatFit_54, E_X11_numbersThatFit_57, E_X11_numbersThatFit_58, E_X11_numbersThatFit_61, E_X11_numbersThatFit_64, E_X11_numbersThatFit_65, E_X11_numbersThatFit_67, E_X11_numbersThatFit_68, E_X11_numbersThatFit_69, E_X11_numbersThatFit_72, E_X11_numbersThatFit_75, E_X11_numbersThatFit_78, E_X11_numbersThatFit_79, E_X11_numbersThatFit_82, E_X11_numbersThatFit_84, E_X11_numbersThatFit_85, E_X11_numbersThatFit_88, E_X11_numbersThatFit_91, E_X11_numbersThatFit_94, E_X11_numbersThatFit_95, E_X11_numbersThatFit_98, E_X11_numbersThatFit_100, E_X11_numbersThatFit_103, E_X11_numbersThatFit_105, rk_0, rc_101, rg_0_0, rg_0_1, e, List.map_nil, List.map_cons, List.sum_cons, List.sum_nil, gcat_i, gcat_r, gcat_l, Nat.reduceAdd, Nat.reduceLeDiff, Nat.zero_le, Option.toList, List.cons_append, List.nil_append, gnk_i, gnk_r, gnk_n, gi_1, Nat.reduceLT, if_true, if_false]
    refine c_copy hR hk (fun s1 hT1 hR1 hR1' => ?_)
    have hR2 := gR_set (o := 3) (j := u) (x := nI n) hR1' (by decide) (by decide)
    have hT2 : cT s (gm_si s1 104 u (nI n)) := cT_si hT1 (by omega)
    simp only [E_X11_numbersThatFit_0, E_X11_numbersThatFit_1, E_X11_numbersThatFit_2, E_X11_numbersThatFit_5, E_X11_numbersThatFit_7, E_X11_numbersThatFit_10, E_X11_numbersThatFit_12, E_X11_numbersThatFit_14, E_X11_numbersThatFit_15, E_X11_numbersThatFit_17, E_X11_numbersThatFit_18, E_X11_numbersThatFit_22, E_X11_numbersThatFit_24, E_X11_numbersThatFit_27, E_X11_numbersThatFit_28, E_X11_numbersThatFit_31, E_X11_numbersThatFit_32, E_X11_numbersThatFit_35, E_X11_numbersThatFit_38, E_X11_numbersThatFit_39, E_X11_numbersThatFit_40, E_X11_numbersThatFit_43, E_X11_numbersThatFit_44, E_X11_numbersThatFit_47, E_X11_numbersThatFit_50, E_X11_numbersThatFit_51, E_X11_numbersThatFit_53, E_X11_numbersThatFit_54, E_X11_numbersThatFit_57, E_X11_numbersThatFit_58, E_X11_numbersThatFit_61, E_X11_numbersThatFit_64, E_X11_numbersThatFit_65, E_X11_numbersThatFit_67, E_X11_numbersThatFit_68, E_X11_numbersThatFit_69, E_X11_numbersThatFit_72, E_X11_numbersThatFit_75, E_X11_numbersThatFit_78, E_X11_numbersThatFit_79, E_X11_numbersThatFit_82, E_X11_numbersThatFit_84, E_X11_numbersThatFit_85, E_X11_numbersThatFit_88, E_X11_numbersThatFit_91, E_X11_numbersThatFit_94, E_X11_numbersThatFit_95, E_X11_numbersThatFit_98, E_X11_numbersThatFit_100, E_X11_numbersThatFit_103, E_X11_numbersThatFit_105, rk_0, rk_101, rc_0, rg_0_1, rg_101_6, ra_104, rs_104, i3, i4, List.map_nil, List.map_cons, List.sum_cons, List.sum_nil, gcat_i, gcat_r, gcat_l, Nat.reduceAdd, Nat.reduceLeDiff, Nat.zero_le, Option.toList, List.cons_append, List.nil_append, gnk_i, gnk_r, gnk_n, gi_1, Nat.reduceLT, if_true, if_false]
    refine c_allSeen (s0 := s) (q := gA_set p 3 u (nI n)) (gA_ok_set hk (by omega)) hh hl (cSn_T hS hT2) hT2 hR2 (fun s3 hT3 => ?_)
    have ef : a_seen (gA_set p 3 u (nI n)) l = a_cf p l u n := rfl
    rw [ef]
    cases hf : a_cf p l u n with
    | true =>
      rw [hf, if_pos rfl] at he1 he2
      cases b with
      | true =>
        have hq' := hq s3 (cT_trans hT hT3)
        unfold a_num at hq'
        rw [if_pos rfl, ← he1 rfl] at hq'
        simp only [E_X11_numbersThatFit_0, E_X11_numbersThatFit_1, E_X11_numbersThatFit_2, E_X11_numbersThatFit_5, E_X11_numbersThatFit_7, E_X11_numbersThatFit_10, E_X11_numbersThatFit_12, E_X11_numbersThatFit_14, E_X11_numbersThatFit_15, E_X11_numbersThatFit_17, E_X11_numbersThatFit_18, E_X11_numbersThatFit_22, E_X11_numbersThatFit_24, E_X11_numbersThatFit_27, E_X11_numbersThatFit_28, E_X11_numbersThatFit_31, E_X11_numbersThatFit_32, E_X11_numbersThatFit_35, E_X11_numbersThatFit_38, E_X11_numbersThatFit_39, E_X11_numbersThatFit_40, E_X11_numbersThatFit_43, E_X11_numbersThatFit_44, E_X11_numbersThatFit_47, E_X11_numbersThatFit_50, E_X11_numbersThatFit_51, E_X11_numbersThatFit_53, E_X11_numbersThatFit_54, E_X11_numbersThatFit_57, E_X11_numbersThatFit_58, E_X11_numbersThatFit_61, E_X11_numbersThatFit_64, E_X11_numbersThatFit_65, E_X11_numbersThatFit_67, E_X11_numbersThatFit_68, E_X11_numbersThatFit_69, E_X11_numbersThatFit_72, E_X11_numbersThatFit_75, E_X11_numbersThatFit_78, E_X11_numbersThatFit_79, E_X11_numbersThatFit_82, E_X11_numbersThatFit_84, E_X11_numbersThatFit_85, E_X11_numbersThatFit_88, E_X11_numbersThatFit_91, E_X11_numbersThatFit_94, E_X11_numbersThatFit_95, E_X11_numbersThatFit_98, E_X11_numbersThatFit_100, E_X11_numbersThatFit_103, E_X11_numbersThatFit_105, gb_1, g1_0, List.map_nil, List.map_cons, List.sum_cons, List.sum_nil, gcat_i, gcat_r, gcat_l, Nat.reduceAdd, Nat.reduceLeDiff, Nat.zero_le, Option.toList, List.cons_append, List.nil_append, gnk_i, gnk_r, gnk_n, gi_1, Nat.reduceLT, if_true, if_false]
        exact hq'
      | false =>
        simp only [E_X11_numbersThatFit_0, E_X11_numbersThatFit_1, E_X11_numbersThatFit_2, E_X11_numbersThatFit_5, E_X11_numbersThatFit_7, E_X11_numbersThatFit_10, E_X11_numbersThatFit_12, E_X11_numbersThatFit_14, E_X11_numbersThatFit_15, E_X11_numbersThatFit_17, E_X11_numbersThatFit_18, E_X11_numbersThatFit_22, E_X11_numbersThatFit_24, E_X11_numbersThatFit_27, E_X11_numbersThatFit_28, E_X11_numbersThatFit_31, E_X11_numbersThatFit_32, E_X11_numbersThatFit_35, E_X11_numbersThatFit_38, E_X11_numbersThatFit_39, E_X11_numbersThatFit_40, E_X11_numbersThatFit_43, E_X11_numbersThatFit_44, E_X11_numbersThatFit_47, E_X11_numbersThatFit_50, E_X11_numbersThatFit_51, E_X11_numbersThatFit_53, E_X11_numbersThatFit_54, E_X11_numbersThatFit_57, E_X11_numbersThatFit_58, E_X11_numbersThatFit_61, E_X11_numbersThatFit_64, E_X11_numbersThatFit_65, E_X11_numbersThatFit_67, E_X11_numbersThatFit_68, E_X11_numbersThatFit_69, E_X11_numbersThatFit_72, E_X11_numbersThatFit_75, E_X11_numbersThatFit_78, E_X11_numbersThatFit_79, E_X11_numbersThatFit_82, E_X11_numbersThatFit_84, E_X11_numbersThatFit_85, E_X11_numbersThatFit_88, E_X11_numbersThatFit_91, E_X11_numbersThatFit_94, E_X11_numbersThatFit_95, E_X11_numbersThatFit_98, E_X11_numbersThatFit_100, E_X11_numbersThatFit_103, E_X11_numbersThatFit_105, gb_0, gb_1, g1_0, List.map_nil, List.map_cons, List.sum_cons, List.sum_nil, gcat_i, gcat_r, gcat_l, Nat.reduceAdd, Nat.reduceLeDiff, Nat.zero_le, Option.toList, List.cons_append, List.nil_append, gnk_i, gnk_r, gnk_n, gi_1, Nat.reduceLT, if_true, if_false]
        rw [← nI_succ c]
        exact hi (c + 1) s3 (by omega) (by omega) (cT_trans hT hT3) (cSn_T hS hT3) (gR_T hR k6 hT3) (fun e => by cases e) (by omega)
    | false =>
      rw [hf, if_neg (by decide)] at he1 he2
      simp only [E_X11_numbersThatFit_0, E_X11_numbersThatFit_1, E_X11_numbersThatFit_2, E_X11_numbersThatFit_5, E_X11_numbersThatFit_7, E_X11_numbersThatFit_10, E_X11_numbersThatFit_12, E_X11_numbersThatFit_14, E_X11_numbersThatFit_15, E_X11_numbersThatFit_17, E_X11_numbersThatFit_18, E_X11_numbersThatFit_22, E_X11_numbersThatFit_24, E_X11_numbersThatFit_27, E_X11_numbersThatFit_28, E_X11_numbersThatFit_31, E_X11_numbersThatFit_32, E_X11_numbersThatFit_35, E_X11_numbersThatFit_38, E_X11_numbersThatFit_39, E_X11_numbersThatFit_40, E_X11_numbersThatFit_43, E_X11_numbersThatFit_44, E_X11_numbersThatFit_47, E_X11_numbersThatFit_50, E_X11_numbersThatFit_51, E_X11_numbersThatFit_53, E_X11_numbersThatFit_54, E_X11_numbersThatFit_57, E_X11_numbersThatFit_58, E_X11_numbersThatFit_61, E_X11_numbersThatFit_64, E_X11_numbersThatFit_65, E_X11_numbersThatFit_67, E_X11_numbersThatFit_68, E_X11_numbersThatFit_69, E_X11_numbersThatFit_72, E_X11_numbersThatFit_75, E_X11_numbersThatFit_78, E_X11_numbersThatFit_79, E_X11_numbersThatFit_82, E_X11_numbersThatFit_84, E_X11_numbersThatFit_85, E_X11_numbersThatFit_88, E_X11_numbersThatFit_91, E_X11_numbersThatFit_94, E_X11_numbersThatFit_95, E_X11_numbersThatFit_98, E_X11_numbersThatFit_100, E_X11_numbersThatFit_103, E_X11_numbersThatFit_105, gb_0, List.map_nil, List.map_cons, List.sum_cons, List.sum_nil, gcat_i, gcat_r, gcat_l, Nat.reduceAdd, Nat.reduceLeDiff, Nat.zero_le, Option.toList, List.cons_append, List.nil_append, gnk_i, gnk_r, gnk_n, gi_1, Nat.reduceLT, if_true, if_false]
      exact hi c s3 (by omega) (by omega) (cT_trans hT hT3) (cSn_T hS hT3) (gR_T hR k6 hT3) he1 (by omega)
theorem c_can {x y : Int32} (hR : gR s 83 f m p) (hk : gA_ok p) (hh : p.1.1 ≤ 9999) (hl : gSn_ok p.1.2.2 l) (hS : cSn s l) (hq : ∀ s', cT s s' → Q (some (.int (a_can p l x y))) (gm_m s')) : gc_X w (d + 7) 80 0 [some (.ref 0), some (.int x), some (.int y)] [] (gm_m s) Q := by
  have k6 := hk.1
  have hw := fun (a b : Int32) (Q : Option Value → gc_M → Prop) => c_within (w := w) (d := d + 6) (s := s) (x := a) (y := b) (Q := Q)
  have hhc := fun (z : Int32) (Q : Option Value → gc_M → Prop) => gy_hasCrane (w := w) (d := d + 6) (x := z) (Q := Q) hR
  unfold a_can at hq
  cases b1 : gA_of p.1.2.1 x with
  | false =>
    rw [b1, Bool.false_and, if_pos rfl] at hq
    simp only [E_X11_can_0, E_X11_can_1, E_X11_can_4, E_X11_can_5, E_X11_can_8, E_X11_can_11, E_X11_can_12, E_X11_can_13, E_X11_can_16, E_X11_can_19, E_X11_can_20, E_X11_can_21, E_X11_can_22, E_X11_can_23, E_X11_can_24, E_X11_can_25, E_X11_can_26, E_X11_can_29, E_X11_can_30, E_X11_can_33, E_X11_can_34, E_X11_can_37, rk_0, rc_83, rg_0_0, hhc, b1, gb_0, List.map_nil, List.map_cons, List.sum_cons, List.sum_nil, gcat_i, gcat_r, gcat_l, Nat.reduceAdd, Nat.reduceLeDiff, Nat.zero_le, Option.toList, List.cons_append, List.nil_append, gnk_i, gnk_r, gnk_n, gi_1, Nat.reduceLT, if_true, if_false]
    exact hq s cT_refl
  | true =>
    cases b2 : gB_in y 0 1 with
    | false =>
      rw [b1, b2, Bool.true_and, if_pos rfl] at hq
      simp only [E_X11_can_0, E_X11_can_1, E_X11_can_4, E_X11_can_5, E_X11_can_8, E_X11_can_11, E_X11_can_12, E_X11_can_13, E_X11_can_16, E_X11_can_19, E_X11_can_20, E_X11_can_21, E_X11_can_22, E_X11_can_23, E_X11_can_24, E_X11_can_25, E_X11_can_26, E_X11_can_29, E_X11_can_30, E_X11_can_33, E_X11_can_34, E_X11_can_37, rk_0, rc_83, rg_0_0, hhc, hw, b1, b2, gb_0, gb_1, g1_0, List.map_nil, List.map_cons, List.sum_cons, List.sum_nil, gcat_i, gcat_r, gcat_l, Nat.reduceAdd, Nat.reduceLeDiff, Nat.zero_le, Option.toList, List.cons_append, List.nil_append, gnk_i, gnk_r, gnk_n, gi_1, Nat.reduceLT, if_true, if_false]
      exact hq s cT_refl
    | true =>
      rw [b1, b2, Bool.true_and, if_neg (by decide)] at hq
      obtain ⟨u, hu, e⟩ := gA_of_ex b1 (by omega)
      subst e
      have i4 : (nI u).toNatClampNeg = u := nI_clamp (by omega)
      rw [i4] at hq
      have go : ∀ b : Bool, (b = true ↔ y = 1) → ∀ Q' : Option Value → gc_M → Prop, (∀ s', cT s s' → Q' (some (.int (a_num (a_cf p l u) b 10))) (gm_m s')) → gc_X w (d + 6) 106 0 [some (.ref 0), some (.int (-1)), some (.int (nI u)), some (.int (gb_i b)), none, none, none] [] (gm_m s) Q' := by
        intro b _ Q' hQ
        simp only [E_X11_numbersThatFit_0, E_X11_numbersThatFit_1, E_X11_numbersThatFit_2, E_X11_numbersThatFit_5, E_X11_numbersThatFit_7, E_X11_numbersThatFit_10, E_X11_numbersThatFit_12, E_X11_numbersThatFit_14, E_X11_numbersThatFit_15, E_X11_numbersThatFit_17, E_X11_numbersThatFit_18, E_X11_numbersThatFit_22, E_X11_numbersThatFit_24, E_X11_numbersThatFit_27, E_X11_numbersThatFit_28, E_X11_numbersThatFit_31, E_X11_numbersThatFit_32, E_X11_numbersThatFit_35, E_X11_numbersThatFit_38, E_X11_numbersThatFit_39, E_X11_numbersThatFit_40, E_X11_numbersThatFit_43, E_X11_numbersThatFit_44, E_X11_numbersThatFit_47, E_X11_numbersThatFit_50, E_X11_numbersThatFit_51, E_X11_numbersThatFit_53, E_X11_numbersThatFit_54, E_X11_numbersThatFit_57, E_X11_numbersThatFit_58, E_X11_numbersThatFit_61, E_X11_numbersThatFit_64, E_X11_numbersThatFit_65, E_X11_numbersThatFit_67, E_X11_numbersThatFit_68, E_X11_numbersThatFit_69, E_X11_numbersThatFit_72, E_X11_numbersThatFit_75, E_X11_numbersThatFit_78, E_X11_numbersThatFit_79, E_X11_numbersThatFit_82, E_X11_numbersThatFit_84, E_X11_numbersThatFit_85, E_X11_numbersThatFit_88, E_X11_numbersThatFit_91, E_X11_numbersThatFit_94, E_X11_numbersThatFit_95, E_X11_numbersThatFit_98, E_X11_numbersThatFit_100, E_X11_numbersThatFit_103, E_X11_numbersThatFit_105, gnk_i, gnk_r, gnk_n, gi_1, Nat.reduceLT, if_true, if_false]
        rw [← nI_0]
        exact c_cf_loop (s0 := s) hu hk hh hl hQ 10 0 0 s (by omega) (by omega) cT_refl hS hR (fun _ => rfl) (by omega)
      rw [gD_eq] at hq
      dsimp only at hq
      rw [Nat.zero_add] at hq
      by_cases y0 : y = 0
      · rw [if_pos y0] at hq
        have e01 : ((0 : Int32) = 1) = False := eq_false (by decide)
        have go0 := fun Q' => go false ⟨(fun e => by cases e), (fun e => by rw [y0] at e; exact absurd e (by decide))⟩ Q'
        rw [gb_0] at go0
        have b0 : gB_in 0 0 1 = true := rfl
        simp only [E_X11_can_0, E_X11_can_1, E_X11_can_4, E_X11_can_5, E_X11_can_8, E_X11_can_11, E_X11_can_12, E_X11_can_13, E_X11_can_16, E_X11_can_19, E_X11_can_20, E_X11_can_21, E_X11_can_22, E_X11_can_23, E_X11_can_24, E_X11_can_25, E_X11_can_26, E_X11_can_29, E_X11_can_30, E_X11_can_33, E_X11_can_34, E_X11_can_37, rk_0, rc_0, rc_83, rg_0_0, hhc, hw, b1, b0, y0, e01, gb_1, g1_0, List.map_nil, List.map_cons, List.sum_cons, List.sum_nil, gcat_i, gcat_r, gcat_l, Nat.reduceAdd, Nat.reduceLeDiff, Nat.zero_le, Option.toList, List.cons_append, List.nil_append, gnk_i, gnk_r, gnk_n, gi_1, Nat.reduceLT, if_true, if_false]
        refine go0 _ (fun s' hT' => ?_)
        simp only [E_X11_can_0, E_X11_can_1, E_X11_can_4, E_X11_can_5, E_X11_can_8, E_X11_can_11, E_X11_can_12, E_X11_can_13, E_X11_can_16, E_X11_can_19, E_X11_can_20, E_X11_can_21, E_X11_can_22, E_X11_can_23, E_X11_can_24, E_X11_can_25, E_X11_can_26, E_X11_can_29, E_X11_can_30, E_X11_can_33, E_X11_can_34, E_X11_can_37, List.map_nil, List.map_cons, List.sum_cons, List.sum_nil, gcat_i, gcat_r, gcat_l, Nat.reduceAdd, Nat.reduceLeDiff, Nat.zero_le, Option.toList, List.cons_append, List.nil_append, gnk_i, gnk_r, gnk_n, gi_1, Nat.reduceLT, if_true, if_false]
        exact hq s' hT'
      · rw [if_neg y0] at hq
        have y1 : y = 1 := by
          obtain ⟨j, hj, e⟩ := gB_in_ex (k := 1) b2 (by decide)
          have : j = 0 ∨ j = 1 := by omega
          rcases this with rfl | rfl
          · exact absurd e y0
          · exact e
        have go1 := fun Q' => go true ⟨(fun _ => y1), (fun _ => rfl)⟩ Q'
        rw [gb_1] at go1
        have b0 : gB_in 1 0 1 = true := rfl
        simp only [E_X11_can_0, E_X11_can_1, E_X11_can_4, E_X11_can_5, E_X11_can_8, E_X11_can_11, E_X11_can_12, E_X11_can_13, E_X11_can_16, E_X11_can_19, E_X11_can_20, E_X11_can_21, E_X11_can_22, E_X11_can_23, E_X11_can_24, E_X11_can_25, E_X11_can_26, E_X11_can_29, E_X11_can_30, E_X11_can_33, E_X11_can_34, E_X11_can_37, rk_0, rc_0, rc_83, rg_0_0, hhc, hw, b1, b0, y1, gb_1, g1_0, List.map_nil, List.map_cons, List.sum_cons, List.sum_nil, gcat_i, gcat_r, gcat_l, Nat.reduceAdd, Nat.reduceLeDiff, Nat.zero_le, Option.toList, List.cons_append, List.nil_append, gnk_i, gnk_r, gnk_n, gi_1, Nat.reduceLT, if_true, if_false]
        refine go1 _ (fun s' hT' => ?_)
        simp only [E_X11_can_0, E_X11_can_1, E_X11_can_4, E_X11_can_5, E_X11_can_8, E_X11_can_11, E_X11_can_12, E_X11_can_13, E_X11_can_16, E_X11_can_19, E_X11_can_20, E_X11_can_21, E_X11_can_22, E_X11_can_23, E_X11_can_24, E_X11_can_25, E_X11_can_26, E_X11_can_29, E_X11_can_30, E_X11_can_33, E_X11_can_34, E_X11_can_37, List.map_nil, List.map_cons, List.sum_cons, List.sum_nil, gcat_i, gcat_r, gcat_l, Nat.reduceAdd, Nat.reduceLeDiff, Nat.zero_le, Option.toList, List.cons_append, List.nil_append, gnk_i, gnk_r, gnk_n, gi_1, Nat.reduceLT, if_true, if_false]
        exact hq s' hT'
end
