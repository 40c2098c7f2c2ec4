/-! FIRM, a text: clause by clause, both sides -/
def zC (w : Nat × (Nat → Int32)) (f B cl n : Nat) (b : Nat → Nat) (a : Nat) : Prop := (∃ a1 c, a < a1 ∧ gU n a a1 (fC_steps c) ∧ fC_ok c ∧ (1 < c.1 → c.2.2 = []) ∧ sC_ok w f n b a a1 c ∧ rC_ok w B cl n b a a1 c) ∨ ∃ a1, a1 ≤ n ∧ sC_no w f n b a a1 ∧ rC_no w B cl n b a a1
theorem pW_le {t : Nat → Nat} : ∀ {ws : List Nat} {a a' : Nat} {ok : Bool}, pW t ws a = (ok, a') → a ≤ a'
  | [], a, a', ok, h => by
    cases h
    exact Nat.le_refl _
  | c :: r, a, a', ok, h => by
    unfold pW at h
    split at h
    · exact Nat.le_of_succ_le (pW_le h)
    · cases h
      exact Nat.le_refl _
theorem pW_n {n : Nat} {b : Nat → Nat} : ∀ {ws : List Nat} {a a' : Nat} {ok : Bool}, (∀ c, c ∈ ws → 0 < c) → a ≤ n → pW (xt n b) ws a = (ok, a') → a' ≤ n
  | [], a, a', ok, _, ha, h => by
    cases h
    exact ha
  | c :: r, a, a', ok, hw, ha, h => by
    unfold pW at h
    split at h
    · rename_i hc
      have h0 := hw c (List.mem_cons_self ..)
      have ha' : a < n := xt_lt (b := b) (by omega)
      exact pW_n (fun c hc => hw c (List.mem_cons_of_mem _ hc)) (by omega) h
    · cases h
      exact ha
theorem wd_pos : ∀ j, j < 4 → ∀ c, c ∈ wd j → 0 < c := by decide +kernel
theorem pM_n {n a a1 v j : Nat} {b : Nat → Nat} {ok : Bool} (hj : j < 4) (ha : a ≤ n) (h : pM (xt n b) (wd j) a = (ok, a1, v)) : a1 ≤ n := by
  unfold pM at h
  split at h
  · rename_i a2 hw
    have h1 := pW_n (wd_pos j hj) ha hw
    cases h
    exact h1
  · rename_i a2 hw
    have h1 := pW_n (wd_pos j hj) ha hw
    split at h
    · rename_i h32
      have ha' : a2 < n := xt_lt (b := b) (by omega)
      split at h
      · cases h
        exact ha'
      · rename_i a3 v3 hn
        cases h
        exact (pN_lt hn).2.1
    · cases h
      exact h1
theorem pM_lt {n a a1 v : Nat} {b : Nat → Nat} {ws : List Nat} (h : pM (xt n b) ws a = (true, a1, v)) : a < a1 ∧ a1 ≤ n ∧ v < 100 := by
  unfold pM at h
  split at h
  · cases h
  · rename_i a2 hw
    have h1 := pW_le hw
    split at h
    · split at h
      · cases h
      · rename_i a3 v3 hn
        cases h
        have := pN_lt hn
        omega
    · cases h
section
variable {w : Nat × (Nat → Int32)} {f B cl n a a1 v : Nat} {b : Nat → Nat}
theorem z_short {j : Nat} (hj : 1 < j) (hj2 : j ≤ 3) (hp : a < a1 ∧ a1 ≤ n ∧ v < 100) (h1 : sC_ok w f n b a a1 (j, v, [])) (h2 : rC_ok w B cl n b a a1 (j, v, [])) : zC w f B cl n b a := by
  have e : fC_steps (j, v, []) = [] := if_pos hj
  refine Or.inl ⟨a1, (j, v, []), hp.1, ?_, ⟨hj2, hp.2.2, fun q => ?_⟩, fun _ => rfl, h1, h2⟩
  · rw [e]
    exact ⟨by rw [List.length_nil]; omega, hp.2.1, fun q hq => (by cases hq)⟩
  · have q : j ≤ 1 := q
    omega
theorem z_long {j a2 : Nat} {u : List fT} (hj : j ≤ 1) (hp : a < a1 ∧ a1 ≤ n ∧ v < 100) (hg : gU n (a1 + 1) a2 u) (hw : fW 11 u) (h1 : sC_ok w f n b a a2 (j, v, u)) (h2 : rC_ok w B cl n b a a2 (j, v, u)) : zC w f B cl n b a := by
  have e : fC_steps (j, v, u) = u ++ [(6 + j, 0, v)] := if_neg (by show ¬ 1 < j; omega)
  obtain ⟨g1, g2, g3⟩ := hg
  refine Or.inl ⟨a2, (j, v, u), by omega, ?_, ⟨by show j ≤ 3; omega, hp.2.2, fun _ => hw⟩, fun q => ?_, h1, h2⟩
  · rw [e]
    refine ⟨by rw [List.length_append, List.length_singleton]; omega, g2, fun q hq => ?_⟩
    rcases List.mem_append.mp hq with h | h
    · exact g3 q h
    · rw [List.mem_singleton] at h
      subst h
      exact ⟨by show 6 + j ≤ 7; omega, (by decide : (0 : Nat) < 6)⟩
  · have q : 1 < j := q
    omega
theorem z_C (hb : xb n b) (ha : a ≤ n) (hcl : cl < 60) : zC w f B cl n b a := by
  by_cases c98 : xt n b a = 98
  · have hje : hj (xt n b a) = 0 := by unfold hj; rw [if_pos c98]
    match hp : pM (xt n b) (wd 0) a with
    | (false, a1, v) => exact Or.inr ⟨a1, pM_n (by decide) ha hp, s_cl_bear_no c98 hp, r_cl_no1 hcl (by rw [hje]; exact hp)⟩
    | (true, a1, v) =>
      have r := r_cl_short (w := w) (B := B) (b := b) (n := n) (a := a) (a1 := a1) (v := v) hcl (by rw [hje]; decide) (by rw [hje]; exact hp)
      rw [hje] at r
      exact z_short (j := 2) (by decide) (by decide) (pM_lt hp) (s_cl_bear_ok c98 hp) r
  by_cases c115 : xt n b a = 115
  · have hje : hj (xt n b a) = 2 := by unfold hj; rw [if_neg c98, if_pos c115]
    match hp : pM (xt n b) (wd 2) a with
    | (false, a1, v) => exact Or.inr ⟨a1, pM_n (by decide) ha hp, s_cl_strong_no c115 hp, r_cl_no1 hcl (by rw [hje]; exact hp)⟩
    | (true, a1, v) =>
      have hlt := pM_lt hp
      by_cases h32 : xt n b a1 = 32
      · have ha1 : a1 < n := xt_lt (b := b) (by omega)
        rcases z_top (w := w) (f := f) (B := B) (a := a1 + 1) hb hcl (by omega) with ⟨a2, u, x1, x2, x3, q38, q124, x4, x5⟩ | ⟨a2, x0, x4, x5⟩
        · have r := r_cl_ok hcl (by rw [hje]; decide) (by rw [hje]; exact hp) h32 x5 q38 q124
          rw [hje] at r
          exact z_long (j := 0) (by decide) hlt x2 x3 (s_cl_strong_ok c115 hp h32 (cOk_le x4 (by decide)) x2.1 hlt.1) r
        · exact Or.inr ⟨a2, x0, s_cl_strong_no3 c115 hp h32 (cNo_le x4 (by decide)), r_cl_no3 hcl (by rw [hje]; decide) (by rw [hje]; exact hp) h32 x5⟩
      · exact Or.inr ⟨a1, hlt.2.1, s_cl_strong_no2 c115 hp h32, r_cl_no2 hcl (by rw [hje]; decide) (by rw [hje]; exact hp) h32⟩
  by_cases c119 : xt n b a = 119
  · have hje : hj (xt n b a) = 3 := by unfold hj; rw [if_neg c98, if_neg c115, if_pos c119]
    match hp : pM (xt n b) (wd 3) a with
    | (false, a1, v) => exact Or.inr ⟨a1, pM_n (by decide) ha hp, s_cl_weak_no c119 hp, r_cl_no1 hcl (by rw [hje]; exact hp)⟩
    | (true, a1, v) =>
      have hlt := pM_lt hp
      by_cases h32 : xt n b a1 = 32
      · have ha1 : a1 < n := xt_lt (b := b) (by omega)
        rcases z_top (w := w) (f := f) (B := B) (a := a1 + 1) hb hcl (by omega) with ⟨a2, u, x1, x2, x3, q38, q124, x4, x5⟩ | ⟨a2, x0, x4, x5⟩
        · have r := r_cl_ok hcl (by rw [hje]; decide) (by rw [hje]; exact hp) h32 x5 q38 q124
          rw [hje] at r
          exact z_long (j := 1) (by decide) hlt x2 x3 (s_cl_weak_ok c119 hp h32 (cOk_le x4 (by decide)) x2.1 hlt.1) r
        · exact Or.inr ⟨a2, x0, s_cl_weak_no3 c119 hp h32 (cNo_le x4 (by decide)), r_cl_no3 hcl (by rw [hje]; decide) (by rw [hje]; exact hp) h32 x5⟩
      · exact Or.inr ⟨a1, hlt.2.1, s_cl_weak_no2 c119 hp h32, r_cl_no2 hcl (by rw [hje]; decide) (by rw [hje]; exact hp) h32⟩
  have hje : hj (xt n b a) = 1 := by unfold hj; rw [if_neg c98, if_neg c115, if_neg c119]
  by_cases c104 : xt n b a = 104
  · match hp : pM (xt n b) (wd 1) a with
    | (false, a1, v) => exact Or.inr ⟨a1, pM_n (by decide) ha hp, s_cl_hang_no c104 hp, r_cl_no1 hcl (by rw [hje]; exact hp)⟩
    | (true, a1, v) =>
      have r := r_cl_short (w := w) (B := B) (b := b) (n := n) (a := a) (a1 := a1) (v := v) hcl (by rw [hje]; decide) (by rw [hje]; exact hp)
      rw [hje] at r
      exact z_short (j := 3) (by decide) (by decide) (pM_lt hp) (s_cl_hang_ok c104 hp) r
  · have hp : pM (xt n b) (wd 1) a = (false, a, 0) := by
      have hw : pW (xt n b) (wd 1) a = (false, a) := if_neg c104
      unfold pM
      rw [hw]
    exact Or.inr ⟨a, ha, s_cl_none c98 c104 c115 c119, r_cl_no1 hcl (by rw [hje]; exact hp)⟩
end
/-- the clauses' steps but their words' -/
def fC_tk : List fC → List fT
  | [] => []
  | c :: r => c.2.2 ++ fC_tk r
/-- clauses of the reference from number cl on, their steps from p on -/
def rX (s : gm_S) : Nat → Nat → List fC → Prop
  | _, _, [] => True
  | cl, p, c :: r => s.1 150 cl = nI c.1 ∧ s.1 151 cl = nI c.2.1 ∧ (c.1 ≤ 1 → s.1 152 cl = nI p ∧ s.1 153 cl = nI (p + c.2.2.length)) ∧ rX s (cl + 1) (p + c.2.2.length) r
/-- all is kept but what the text of firm fi writes from clause cl on -/
def dJ (B fi cl : Nat) (s s' : gm_S) : Prop := s'.2 = s.2 ∧ ∀ c j, ¬ (c = 137 ∧ (j = 16 ∨ j = 17 ∨ j = 26 ∨ j = 27 ∨ j = 28)) → ¬ (c = 154 ∧ B ≤ j) → c ≠ 155 → ¬ (150 ≤ c ∧ c ≤ 153 ∧ cl ≤ j) → ¬ (c = 149 ∧ j = fi) → s'.1 c j = s.1 c j
theorem dJ_H {B fi cl : Nat} {s s' : gm_S} (h : dH B cl s s') : dJ B fi cl s s' := ⟨h.1, fun c j q1 q2 q3 q4 _ => h.2 c j q1 q2 q3 (fun e => q4 ⟨e.1, e.2.1, by omega⟩)⟩
theorem dJ_trans {B fi cl cl' : Nat} {s s' s2 : gm_S} (h : dJ B fi cl s s') (h2 : dJ B fi cl' s' s2) (hc : cl ≤ cl') : dJ B fi cl s s2 := ⟨h2.1.trans h.1, fun c j q1 q2 q3 q4 q5 => (h2.2 c j q1 q2 q3 (fun e => q4 ⟨e.1, e.2.1, by omega⟩) q5).trans (h.2 c j q1 q2 q3 q4 q5)⟩
theorem dJ_149 {B fi cl : Nat} {s : gm_S} {x : Int32} : dJ B fi cl s (gm_si s 149 fi x) := by
  refine ⟨rfl, fun c j _ _ _ _ q5 => ?_⟩
  rw [gsi_1, if_neg (fun e => q5 e)]
theorem dJ_16 {B fi cl : Nat} {s : gm_S} {x : Int32} : dJ B fi cl s (gm_si s 137 16 x) := dJ_H (dH_si (by decide))
theorem dB_J {B n fi cl : Nat} {b : Nat → Nat} {s s' : gm_S} (h : dB B n b s) (e : dJ B fi cl s s') : dB B n b s' := by
  obtain ⟨h1, h2, h3, h4, h5, h6⟩ := h
  exact ⟨h1, h2, (e.2 _ _ (by omega) (by omega) (by omega) (by omega) (by omega)).trans h3, h4, fun i hi => (e.2 _ _ (by omega) (by omega) (by omega) (by omega) (by omega)).trans (h5 i hi), fun i hi => (e.2 _ _ (by omega) (by omega) (by omega) (by omega) (by omega)).trans (h6 i hi)⟩
def sX_ok (w : Nat × (Nat → Int32)) (f n : Nat) (b : Nat → Nat) (i a : Nat) (cs : List fC) : Prop := ∀ (d : Nat) (s : gm_S) (ts : List fT) (Q : Option Value → gc_M → Prop) (l1 : Option Value), 22 ≤ d → cB f n b s → cA f n s a ts → (∀ s', sG f s s' → cK f s' (ts ++ fC_flat cs) → s'.1 f 0 = fC_last 2 cs (s.1 f 0) → s'.1 f 1 = fC_last 3 cs (s.1 f 1) → Q (some (.int (-1))) (gm_m s')) → gc_X w d 8 62 [some (.ref f), l1, some (.int (nI n)), some (.int (nI i))] [] (gm_m s) Q
def sX_no (w : Nat × (Nat → Int32)) (f n : Nat) (b : Nat → Nat) (i a a' : Nat) : Prop := ∀ (d : Nat) (s : gm_S) (ts : List fT) (Q : Option Value → gc_M → Prop) (l1 : Option Value), 22 ≤ d → cB f n b s → cA f n s a ts → (∀ s', sG f s s' → Q (some (.int (nI a'))) (gm_m s')) → gc_X w d 8 62 [some (.ref f), l1, some (.int (nI n)), some (.int (nI i))] [] (gm_m s) Q
def rX_ok (w : Nat × (Nat → Int32)) (B fi n : Nat) (b : Nat → Nat) (i a : Nat) (cs : List fC) : Prop := ∀ (d : Nat) (s : gm_S) (ts : List fT) (Q : Option Value → gc_M → Prop), dB B n b s → dC B n s a ts → (∀ s', dJ B fi (10 * fi + i) s s' → (∀ q k, (ts ++ fC_tk cs)[q]? = some k → s'.1 154 (B + q) = fT_code k) → (ts ++ fC_tk cs).length ≤ 100 → s'.1 149 fi = nI (i + cs.length) → rX s' (10 * fi + i) (B + ts.length) cs → Q (some (.int 1)) (gm_m s')) → gc_X w (d + 6) 137 15 [some (.ref 137), some (.int (nI fi)), some (.int (nI i))] [] (gm_m s) Q
def rX_no (w : Nat × (Nat → Int32)) (B fi n : Nat) (b : Nat → Nat) (i a a' : Nat) : Prop := ∀ (d : Nat) (s : gm_S) (ts : List fT) (Q : Option Value → gc_M → Prop), dB B n b s → dC B n s a ts → (∀ s', dJ B fi (10 * fi + i) s s' → s'.1 137 16 = nI a' → Q (some (.int 0)) (gm_m s')) → gc_X w (d + 6) 137 15 [some (.ref 137), some (.int (nI fi)), some (.int (nI i))] [] (gm_m s) Q
section
variable {w : Nat × (Nat → Int32)} {f B fi n a a1 a2 i : Nat} {b : Nat → Nat} {c : fC} {cs : List fC}
theorem s_X_no1 (h : sC_no w f n b a a1) : sX_no w f n b i a a1 := by
  intro d s ts Q l1 hd hB hA hQ
  obtain ⟨d, rfl⟩ : ∃ e, d = e + 1 := ⟨d - 1, by omega⟩
  have hf := hB.1
  simp only [E_X1_readFrom_0, E_X1_readFrom_1, E_X1_readFrom_2r, E_X1_readFrom_2n, E_X1_readFrom_5, E_X1_readFrom_6, E_X1_readFrom_7, E_X1_readFrom_8, E_X1_readFrom_9, E_X1_readFrom_12, E_X1_readFrom_15, E_X1_readFrom_16, E_X1_readFrom_17, E_X1_readFrom_20, E_X1_readFrom_21, E_X1_readFrom_22, E_X1_readFrom_25, E_X1_readFrom_26, E_X1_readFrom_28, E_X1_readFrom_31, E_X1_readFrom_32, E_X1_readFrom_33, E_X1_readFrom_36, E_X1_readFrom_37, E_X1_readFrom_38, E_X1_readFrom_39, E_X1_readFrom_41, E_X1_readFrom_44, E_X1_readFrom_45, E_X1_readFrom_48, E_X1_readFrom_49, E_X1_readFrom_51, E_X1_readFrom_54, E_X1_readFrom_57, E_X1_readFrom_58, E_X1_readFrom_61, E_X1_readFrom_62, E_X1_readFrom_63, E_X1_readFrom_66, E_X1_readFrom_69, E_X1_readFrom_70, E_X1_readFrom_73, E_X1_readFrom_74, E_X1_readFrom_75, E_X1_readFrom_78, E_X1_readFrom_79, E_X1_readFrom_82, E_X1_readFrom_85, E_X1_readFrom_86, E_X1_readFrom_87, E_X1_readFrom_90, E_X1_readFrom_93, E_X1_readFrom_94, E_X1_readFrom_97, gF_cl hf, List.map_nil, List.map_cons, List.sum_cons, List.sum_nil, gcat_i, gcat_r, gcat_l, Nat.reduceAdd, Nat.reduceLeDiff, Nat.zero_le, Option.toList, List.cons_append, List.nil_append, gnk_i, gnk_r, gnk_n, gi_1, Nat.reduceLT, if_true, if_false]
  refine h d s ts _ (by omega) hB hA (fun s1 hG h8 => ?_)
  simp (decide := true) only [E_X1_readFrom_0, E_X1_readFrom_1, E_X1_readFrom_2r, E_X1_readFrom_2n, E_X1_readFrom_5, E_X1_readFrom_6, E_X1_readFrom_7, E_X1_readFrom_8, E_X1_readFrom_9, E_X1_readFrom_12, E_X1_readFrom_15, E_X1_readFrom_16, E_X1_readFrom_17, E_X1_readFrom_20, E_X1_readFrom_21, E_X1_readFrom_22, E_X1_readFrom_25, E_X1_readFrom_26, E_X1_readFrom_28, E_X1_readFrom_31, E_X1_readFrom_32, E_X1_readFrom_33, E_X1_readFrom_36, E_X1_readFrom_37, E_X1_readFrom_38, E_X1_readFrom_39, E_X1_readFrom_41, E_X1_readFrom_44, E_X1_readFrom_45, E_X1_readFrom_48, E_X1_readFrom_49, E_X1_readFrom_51, E_X1_readFrom_54, E_X1_readFrom_57, E_X1_readFrom_58, E_X1_readFrom_61, E_X1_readFrom_62, E_X1_readFrom_63, E_X1_readFrom_66, E_X1_readFrom_69, E_X1_readFrom_70, E_X1_readFrom_73, E_X1_readFrom_74, E_X1_readFrom_75, E_X1_readFrom_78, E_X1_readFrom_79, E_X1_readFrom_82, E_X1_readFrom_85, E_X1_readFrom_86, E_X1_readFrom_87, E_X1_readFrom_90, E_X1_readFrom_93, E_X1_readFrom_94, E_X1_readFrom_97, gF_gok hf, Fg_8 hf, h8, List.map_nil, List.map_cons, List.sum_cons, List.sum_nil, gcat_i, gcat_r, gcat_l, Nat.reduceAdd, Nat.reduceLeDiff, Nat.zero_le, Option.toList, List.cons_append, List.nil_append, gnk_i, gnk_r, gnk_n, gi_1, Nat.reduceLT, if_true, if_false]
  exact hQ s1 hG
theorem s_X_end (h : sC_ok w f n b a n c) : sX_ok w f n b i a [c] := by
  intro d s ts Q l1 hd hB hA hQ
  obtain ⟨d, rfl⟩ : ∃ e, d = e + 1 := ⟨d - 1, by omega⟩
  have hf := hB.1
  simp only [E_X1_readFrom_0, E_X1_readFrom_1, E_X1_readFrom_2r, E_X1_readFrom_2n, E_X1_readFrom_5, E_X1_readFrom_6, E_X1_readFrom_7, E_X1_readFrom_8, E_X1_readFrom_9, E_X1_readFrom_12, E_X1_readFrom_15, E_X1_readFrom_16, E_X1_readFrom_17, E_X1_readFrom_20, E_X1_readFrom_21, E_X1_readFrom_22, E_X1_readFrom_25, E_X1_readFrom_26, E_X1_readFrom_28, E_X1_readFrom_31, E_X1_readFrom_32, E_X1_readFrom_33, E_X1_readFrom_36, E_X1_readFrom_37, E_X1_readFrom_38, E_X1_readFrom_39, E_X1_readFrom_41, E_X1_readFrom_44, E_X1_readFrom_45, E_X1_readFrom_48, E_X1_readFrom_49, E_X1_readFrom_51, E_X1_readFrom_54, E_X1_readFrom_57, E_X1_readFrom_58, E_X1_readFrom_61, E_X1_readFrom_62, E_X1_readFrom_63, E_X1_readFrom_66, E_X1_readFrom_69, E_X1_readFrom_70, E_X1_readFrom_73, E_X1_readFrom_74, E_X1_readFrom_75, E_X1_readFrom_78, E_X1_readFrom_79, E_X1_readFrom_82, E_X1_readFrom_85, E_X1_readFrom_86, E_X1_readFrom_87, E_X1_readFrom_90, E_X1_readFrom_93, E_X1_readFrom_94, E_X1_readFrom_97, gF_cl hf, List.map_nil, List.map_cons, List.sum_cons, List.sum_nil, gcat_i, gcat_r, gcat_l, Nat.reduceAdd, Nat.reduceLeDiff, Nat.zero_le, Option.toList, List.cons_append, List.nil_append, gnk_i, gnk_r, gnk_n, gi_1, Nat.reduceLT, if_true, if_false]
  refine h d s ts _ (by omega) hB hA (fun s1 hG hA1 h0 h1 => ?_)
  have h8 := hA1.1
  have h7 := (cB_G hB hG).2.2.2.1
  have e : (nI n = nI n) = True := eq_true rfl
  simp only [E_X1_readFrom_0, E_X1_readFrom_1, E_X1_readFrom_2r, E_X1_readFrom_2n, E_X1_readFrom_5, E_X1_readFrom_6, E_X1_readFrom_7, E_X1_readFrom_8, E_X1_readFrom_9, E_X1_readFrom_12, E_X1_readFrom_15, E_X1_readFrom_16, E_X1_readFrom_17, E_X1_readFrom_20, E_X1_readFrom_21, E_X1_readFrom_22, E_X1_readFrom_25, E_X1_readFrom_26, E_X1_readFrom_28, E_X1_readFrom_31, E_X1_readFrom_32, E_X1_readFrom_33, E_X1_readFrom_36, E_X1_readFrom_37, E_X1_readFrom_38, E_X1_readFrom_39, E_X1_readFrom_41, E_X1_readFrom_44, E_X1_readFrom_45, E_X1_readFrom_48, E_X1_readFrom_49, E_X1_readFrom_51, E_X1_readFrom_54, E_X1_readFrom_57, E_X1_readFrom_58, E_X1_readFrom_61, E_X1_readFrom_62, E_X1_readFrom_63, E_X1_readFrom_66, E_X1_readFrom_69, E_X1_readFrom_70, E_X1_readFrom_73, E_X1_readFrom_74, E_X1_readFrom_75, E_X1_readFrom_78, E_X1_readFrom_79, E_X1_readFrom_82, E_X1_readFrom_85, E_X1_readFrom_86, E_X1_readFrom_87, E_X1_readFrom_90, E_X1_readFrom_93, E_X1_readFrom_94, E_X1_readFrom_97, gF_gok hf, Fg_8 hf, Fg_7 hf, h8, h7, e, g1_0, List.map_nil, List.map_cons, List.sum_cons, List.sum_nil, gcat_i, gcat_r, gcat_l, Nat.reduceAdd, Nat.reduceLeDiff, Nat.zero_le, Option.toList, List.cons_append, List.nil_append, gnk_i, gnk_r, gnk_n, gi_1, Nat.reduceLT, if_true, if_false]
  refine hQ s1 hG ?_ h0 h1
  show cK f s1 (ts ++ (fC_steps c ++ []))
  rw [List.append_nil]
  exact hA1.2.2.2
theorem s_X_ten (h : sC_ok w f n b a a1 c) (hn : a1 ≠ n) (hi : i = 9) : sX_no w f n b i a a1 := by
  intro d s ts Q l1 hd hB hA hQ
  obtain ⟨d, rfl⟩ : ∃ e, d = e + 1 := ⟨d - 1, by omega⟩
  have hf := hB.1
  have h100 := hB.2.1
  simp only [E_X1_readFrom_0, E_X1_readFrom_1, E_X1_readFrom_2r, E_X1_readFrom_2n, E_X1_readFrom_5, E_X1_readFrom_6, E_X1_readFrom_7, E_X1_readFrom_8, E_X1_readFrom_9, E_X1_readFrom_12, E_X1_readFrom_15, E_X1_readFrom_16, E_X1_readFrom_17, E_X1_readFrom_20, E_X1_readFrom_21, E_X1_readFrom_22, E_X1_readFrom_25, E_X1_readFrom_26, E_X1_readFrom_28, E_X1_readFrom_31, E_X1_readFrom_32, E_X1_readFrom_33, E_X1_readFrom_36, E_X1_readFrom_37, E_X1_readFrom_39, E_X1_readFrom_41, E_X1_readFrom_44, E_X1_readFrom_45, E_X1_readFrom_48, E_X1_readFrom_49, E_X1_readFrom_51, E_X1_readFrom_54, E_X1_readFrom_57, E_X1_readFrom_58, E_X1_readFrom_61, E_X1_readFrom_62, E_X1_readFrom_63, E_X1_readFrom_66, E_X1_readFrom_69, E_X1_readFrom_70, E_X1_readFrom_73, E_X1_readFrom_74, E_X1_readFrom_75, E_X1_readFrom_78, E_X1_readFrom_79, E_X1_readFrom_82, E_X1_readFrom_85, E_X1_readFrom_86, E_X1_readFrom_87, E_X1_readFrom_90, E_X1_readFrom_93, E_X1_readFrom_94, E_X1_readFrom_97, gF_cl hf, List.map_nil, List.map_cons, List.sum_cons, List.sum_nil, gcat_i, gcat_r, gcat_l, Nat.reduceAdd, Nat.reduceLeDiff, Nat.zero_le, Option.toList, List.cons_append, List.nil_append, gnk_i, gnk_r, gnk_n, gi_1, Nat.reduceLT, if_true, if_false]
  refine h d s ts _ (by omega) hB hA (fun s1 hG hA1 h0 h1 => ?_)
  have h8 := hA1.1
  have hle := hA1.2.1
  have h7 := (cB_G hB hG).2.2.2.1
  have e : (nI a1 = nI n) = False := eq_false (fun e => hn ((nI_eq (by omega) (by omega)).mp e))
  have e2 : 10 ≤ nI (i + 1) := nI_le (a := 10) (by omega) (by omega)
  simp only [E_X1_readFrom_0, E_X1_readFrom_1, E_X1_readFrom_2r, E_X1_readFrom_2n, E_X1_readFrom_5, E_X1_readFrom_6, E_X1_readFrom_7, E_X1_readFrom_8, E_X1_readFrom_9, E_X1_readFrom_12, E_X1_readFrom_15, E_X1_readFrom_16, E_X1_readFrom_17, E_X1_readFrom_20, E_X1_readFrom_21, E_X1_readFrom_22, E_X1_readFrom_25, E_X1_readFrom_26, E_X1_readFrom_28, E_X1_readFrom_31, E_X1_readFrom_32, E_X1_readFrom_33, E_X1_readFrom_36, E_X1_readFrom_37, E_X1_readFrom_38, E_X1_readFrom_39, E_X1_readFrom_41, E_X1_readFrom_44, E_X1_readFrom_45, E_X1_readFrom_48, E_X1_readFrom_49, E_X1_readFrom_51, E_X1_readFrom_54, E_X1_readFrom_57, E_X1_readFrom_58, E_X1_readFrom_61, E_X1_readFrom_62, E_X1_readFrom_63, E_X1_readFrom_66, E_X1_readFrom_69, E_X1_readFrom_70, E_X1_readFrom_73, E_X1_readFrom_74, E_X1_readFrom_75, E_X1_readFrom_78, E_X1_readFrom_79, E_X1_readFrom_82, E_X1_readFrom_85, E_X1_readFrom_86, E_X1_readFrom_87, E_X1_readFrom_90, E_X1_readFrom_93, E_X1_readFrom_94, E_X1_readFrom_97, gF_gok hf, Fg_8 hf, Fg_7 hf, h8, h7, e, e2, gi_1, nI_1, g1_0, List.map_nil, List.map_cons, List.sum_cons, List.sum_nil, gcat_i, gcat_r, gcat_l, Nat.reduceAdd, Nat.reduceLeDiff, Nat.zero_le, Option.toList, List.cons_append, List.nil_append, gnk_i, gnk_r, gnk_n, gi_1, Nat.reduceLT, if_true, if_false]
  exact hQ s1 hG
theorem s_X_sep (h : sC_ok w f n b a a1 c) (hn : a1 ≠ n) (hi : i < 9) (h59 : xt n b a1 ≠ 59) : sX_no w f n b i a a1 := by
  intro d s ts Q l1 hd hB hA hQ
  obtain ⟨d, rfl⟩ : ∃ e, d = e + 2 := ⟨d - 2, by omega⟩
  have hf := hB.1
  have h100 := hB.2.1
  simp only [E_X1_readFrom_0, E_X1_readFrom_1, E_X1_readFrom_2r, E_X1_readFrom_2n, E_X1_readFrom_5, E_X1_readFrom_6, E_X1_readFrom_7, E_X1_readFrom_8, E_X1_readFrom_9, E_X1_readFrom_12, E_X1_readFrom_15, E_X1_readFrom_16, E_X1_readFrom_17, E_X1_readFrom_20, E_X1_readFrom_21, E_X1_readFrom_22, E_X1_readFrom_25, E_X1_readFrom_26, E_X1_readFrom_28, E_X1_readFrom_31, E_X1_readFrom_32, E_X1_readFrom_33, E_X1_readFrom_36, E_X1_readFrom_37, E_X1_readFrom_39, E_X1_readFrom_41, E_X1_readFrom_44, E_X1_readFrom_45, E_X1_readFrom_48, E_X1_readFrom_49, E_X1_readFrom_51, E_X1_readFrom_54, E_X1_readFrom_57, E_X1_readFrom_58, E_X1_readFrom_61, E_X1_readFrom_62, E_X1_readFrom_63, E_X1_readFrom_66, E_X1_readFrom_69, E_X1_readFrom_70, E_X1_readFrom_73, E_X1_readFrom_74, E_X1_readFrom_75, E_X1_readFrom_78, E_X1_readFrom_79, E_X1_readFrom_82, E_X1_readFrom_85, E_X1_readFrom_86, E_X1_readFrom_87, E_X1_readFrom_90, E_X1_readFrom_93, E_X1_readFrom_94, E_X1_readFrom_97, gF_cl hf, List.map_nil, List.map_cons, List.sum_cons, List.sum_nil, gcat_i, gcat_r, gcat_l, Nat.reduceAdd, Nat.reduceLeDiff, Nat.zero_le, Option.toList, List.cons_append, List.nil_append, gnk_i, gnk_r, gnk_n, gi_1, Nat.reduceLT, if_true, if_false]
  refine h (d + 1) s ts _ (by omega) hB hA (fun s1 hG hA1 h0 h1 => ?_)
  have hB1 := cB_G hB hG
  have h8 := hA1.1
  have hle := hA1.2.1
  have h7 := hB1.2.2.2.1
  have e : (nI a1 = nI n) = False := eq_false (fun e => hn ((nI_eq (by omega) (by omega)).mp e))
  have e2 : ¬ 10 ≤ nI (i + 1) := nI_ge (b := 10) (by omega) (by omega)
  have e3 : ¬ nI (i + 1) ≤ 0 := nI_nle (by omega) (by omega)
  have hs := fun (Q : Option Value → gc_M → Prop) => c_sign (w := w) (d := d) (c := 59) (Q := Q) hB1 hA1.1 hA1.2.1 (by decide) (by decide)
  simp only [h59, if_false] at hs
  have hs : ∀ Q, gc_X w (d + 1) 20 0 [some (.ref f), some (.int 59)] [] (gm_m s1) Q = Q (some (.int 0)) (gm_m s1) := hs
  simp only [E_X1_readFrom_0, E_X1_readFrom_1, E_X1_readFrom_2r, E_X1_readFrom_2n, E_X1_readFrom_5, E_X1_readFrom_6, E_X1_readFrom_7, E_X1_readFrom_8, E_X1_readFrom_9, E_X1_readFrom_12, E_X1_readFrom_15, E_X1_readFrom_16, E_X1_readFrom_17, E_X1_readFrom_20, E_X1_readFrom_21, E_X1_readFrom_22, E_X1_readFrom_25, E_X1_readFrom_26, E_X1_readFrom_28, E_X1_readFrom_31, E_X1_readFrom_32, E_X1_readFrom_33, E_X1_readFrom_36, E_X1_readFrom_37, E_X1_readFrom_38, E_X1_readFrom_39, E_X1_readFrom_41, E_X1_readFrom_44, E_X1_readFrom_45, E_X1_readFrom_48, E_X1_readFrom_49, E_X1_readFrom_51, E_X1_readFrom_54, E_X1_readFrom_57, E_X1_readFrom_58, E_X1_readFrom_61, E_X1_readFrom_62, E_X1_readFrom_63, E_X1_readFrom_66, E_X1_readFrom_69, E_X1_readFrom_70, E_X1_readFrom_73, E_X1_readFrom_74, E_X1_readFrom_75, E_X1_readFrom_78, E_X1_readFrom_79, E_X1_readFrom_82, E_X1_readFrom_85, E_X1_readFrom_86, E_X1_readFrom_87, E_X1_readFrom_90, E_X1_readFrom_93, E_X1_readFrom_94, E_X1_readFrom_97, gF_cl hf, gF_gok hf, Fg_8 hf, Fg_7 hf, h8, h7, e, e2, e3, hs, gi_1, nI_1, g1_0, List.map_nil, List.map_cons, List.sum_cons, List.sum_nil, gcat_i, gcat_r, gcat_l, Nat.reduceAdd, Nat.reduceLeDiff, Nat.zero_le, Option.toList, List.cons_append, List.nil_append, gnk_i, gnk_r, gnk_n, gi_1, Nat.reduceLT, if_true, if_false]
  exact hQ s1 hG
theorem s_X_ok (h : sC_ok w f n b a a1 c) (hn : a1 ≠ n) (hi : i < 9) (h59 : xt n b a1 = 59) (h2 : sX_ok w f n b (i + 1) (a1 + 1) cs) : sX_ok w f n b i a (c :: cs) := by
  intro d s ts Q l1 hd hB hA hQ
  obtain ⟨d, rfl⟩ : ∃ e, d = e + 2 := ⟨d - 2, by omega⟩
  have hf := hB.1
  have h100 := hB.2.1
  have ha1 : a1 < n := xt_lt (b := b) (by omega)
  rw [E_X1_readFrom_62]
  simp only [E_X1_readFrom_0, E_X1_readFrom_1, E_X1_readFrom_2r, E_X1_readFrom_2n, E_X1_readFrom_5, E_X1_readFrom_6, E_X1_readFrom_7, E_X1_readFrom_8, E_X1_readFrom_9, E_X1_readFrom_12, E_X1_readFrom_15, E_X1_readFrom_16, E_X1_readFrom_17, E_X1_readFrom_20, E_X1_readFrom_21, E_X1_readFrom_22, E_X1_readFrom_25, E_X1_readFrom_26, E_X1_readFrom_28, E_X1_readFrom_31, E_X1_readFrom_32, E_X1_readFrom_33, E_X1_readFrom_36, E_X1_readFrom_37, E_X1_readFrom_39, E_X1_readFrom_41, E_X1_readFrom_44, E_X1_readFrom_45, E_X1_readFrom_48, E_X1_readFrom_49, E_X1_readFrom_51, E_X1_readFrom_54, E_X1_readFrom_57, E_X1_readFrom_58, E_X1_readFrom_61, E_X1_readFrom_63, E_X1_readFrom_66, E_X1_readFrom_69, E_X1_readFrom_70, E_X1_readFrom_73, E_X1_readFrom_74, E_X1_readFrom_75, E_X1_readFrom_78, E_X1_readFrom_79, E_X1_readFrom_82, E_X1_readFrom_85, E_X1_readFrom_86, E_X1_readFrom_87, E_X1_readFrom_90, E_X1_readFrom_93, E_X1_readFrom_94, E_X1_readFrom_97, gF_cl hf, List.map_nil, List.map_cons, List.sum_cons, List.sum_nil, gcat_i, gcat_r, gcat_l, Nat.reduceAdd, Nat.reduceLeDiff, Nat.zero_le, Option.toList, List.cons_append, List.nil_append, gnk_i, gnk_r, gnk_n, gi_1, Nat.reduceLT, if_true, if_false]
  refine h (d + 1) s ts _ (by omega) hB hA (fun s1 hG hA1 h0 h1 => ?_)
  have hB1 := cB_G hB hG
  have h8 := hA1.1
  have hle := hA1.2.1
  have h7 := hB1.2.2.2.1
  have e : (nI a1 = nI n) = False := eq_false (fun e => hn ((nI_eq (by omega) (by omega)).mp e))
  have e2 : ¬ 10 ≤ nI (i + 1) := nI_ge (b := 10) (by omega) (by omega)
  have e3 : ¬ nI (i + 1) ≤ 0 := nI_nle (by omega) (by omega)
  have hs := fun (Q : Option Value → gc_M → Prop) => c_sign (w := w) (d := d) (c := 59) (Q := Q) hB1 hA1.1 hA1.2.1 (by decide) (by decide)
  simp only [h59, if_true] at hs
  have hs : ∀ Q, gc_X w (d + 1) 20 0 [some (.ref f), some (.int 59)] [] (gm_m s1) Q = Q (some (.int 1)) (gm_m (gm_si s1 f 8 (nI (a1 + 1)))) := hs
  have hF2 : cF f s1 (gm_si s1 f 8 (nI (a1 + 1))) := cF_si (by decide)
  simp only [E_X1_readFrom_0, E_X1_readFrom_1, E_X1_readFrom_2r, E_X1_readFrom_2n, E_X1_readFrom_5, E_X1_readFrom_6, E_X1_readFrom_7, E_X1_readFrom_8, E_X1_readFrom_9, E_X1_readFrom_12, E_X1_readFrom_15, E_X1_readFrom_16, E_X1_readFrom_17, E_X1_readFrom_20, E_X1_readFrom_21, E_X1_readFrom_22, E_X1_readFrom_25, E_X1_readFrom_26, E_X1_readFrom_28, E_X1_readFrom_31, E_X1_readFrom_32, E_X1_readFrom_33, E_X1_readFrom_36, E_X1_readFrom_37, E_X1_readFrom_38, E_X1_readFrom_39, E_X1_readFrom_41, E_X1_readFrom_44, E_X1_readFrom_45, E_X1_readFrom_48, E_X1_readFrom_49, E_X1_readFrom_51, E_X1_readFrom_54, E_X1_readFrom_57, E_X1_readFrom_58, E_X1_readFrom_61, E_X1_readFrom_63, E_X1_readFrom_66, E_X1_readFrom_69, E_X1_readFrom_70, E_X1_readFrom_73, E_X1_readFrom_74, E_X1_readFrom_75, E_X1_readFrom_78, E_X1_readFrom_79, E_X1_readFrom_82, E_X1_readFrom_85, E_X1_readFrom_86, E_X1_readFrom_87, E_X1_readFrom_90, E_X1_readFrom_93, E_X1_readFrom_94, E_X1_readFrom_97, gF_cl hf, gF_gok hf, Fg_8 hf, Fg_7 hf, h8, h7, e, e2, e3, hs, gi_1, nI_1, g1_0, List.map_nil, List.map_cons, List.sum_cons, List.sum_nil, gcat_i, gcat_r, gcat_l, Nat.reduceAdd, Nat.reduceLeDiff, Nat.zero_le, Option.toList, List.cons_append, List.nil_append, gnk_i, gnk_r, gnk_n, gi_1, Nat.reduceLT, if_true, if_false]
  refine h2 (d + 2) _ _ Q l1 hd (cB_F hB1 hF2) (cA_8 hA1 (by omega) (by omega)) (fun s3 hG3 hK y0 y1 => ?_)
  have z0 : (gm_si s1 f 8 (nI (a1 + 1))).1 f 0 = s1.1 f 0 := by rw [gsi_1, if_neg (fun e => by omega)]
  have z1 : (gm_si s1 f 8 (nI (a1 + 1))).1 f 1 = s1.1 f 1 := by rw [gsi_1, if_neg (fun e => by omega)]
  refine hQ s3 (sG_trans hG (sG_trans (sG_F hF2) hG3)) ?_ ?_ ?_
  · show cK f s3 (ts ++ (fC_steps c ++ fC_flat cs))
    rw [← List.append_assoc]
    exact hK
  · rw [y0, z0, h0]
    rfl
  · rw [y1, z1, h1]
    rfl
theorem s_X_no2 (h : sC_ok w f n b a a1 c) (hn : a1 ≠ n) (hi : i < 9) (h59 : xt n b a1 = 59) (h2 : sX_no w f n b (i + 1) (a1 + 1) a2) : sX_no w f n b i a a2 := by
  intro d s ts Q l1 hd hB hA hQ
  obtain ⟨d, rfl⟩ : ∃ e, d = e + 2 := ⟨d - 2, by omega⟩
  have hf := hB.1
  have h100 := hB.2.1
  have ha1 : a1 < n := xt_lt (b := b) (by omega)
  rw [E_X1_readFrom_62]
  simp only [E_X1_readFrom_0, E_X1_readFrom_1, E_X1_readFrom_2r, E_X1_readFrom_2n, E_X1_readFrom_5, E_X1_readFrom_6, E_X1_readFrom_7, E_X1_readFrom_8, E_X1_readFrom_9, E_X1_readFrom_12, E_X1_readFrom_15, E_X1_readFrom_16, E_X1_readFrom_17, E_X1_readFrom_20, E_X1_readFrom_21, E_X1_readFrom_22, E_X1_readFrom_25, E_X1_readFrom_26, E_X1_readFrom_28, E_X1_readFrom_31, E_X1_readFrom_32, E_X1_readFrom_33, E_X1_readFrom_36, E_X1_readFrom_37, E_X1_readFrom_39, E_X1_readFrom_41, E_X1_readFrom_44, E_X1_readFrom_45, E_X1_readFrom_48, E_X1_readFrom_49, E_X1_readFrom_51, E_X1_readFrom_54, E_X1_readFrom_57, E_X1_readFrom_58, E_X1_readFrom_61, E_X1_readFrom_63, E_X1_readFrom_66, E_X1_readFrom_69, E_X1_readFrom_70, E_X1_readFrom_73, E_X1_readFrom_74, E_X1_readFrom_75, E_X1_readFrom_78, E_X1_readFrom_79, E_X1_readFrom_82, E_X1_readFrom_85, E_X1_readFrom_86, E_X1_readFrom_87, E_X1_readFrom_90, E_X1_readFrom_93, E_X1_readFrom_94, E_X1_readFrom_97, gF_cl hf, List.map_nil, List.map_cons, List.sum_cons, List.sum_nil, gcat_i, gcat_r, gcat_l, Nat.reduceAdd, Nat.reduceLeDiff, Nat.zero_le, Option.toList, List.cons_append, List.nil_append, gnk_i, gnk_r, gnk_n, gi_1, Nat.reduceLT, if_true, if_false]
  refine h (d + 1) s ts _ (by omega) hB hA (fun s1 hG hA1 h0 h1 => ?_)
  have hB1 := cB_G hB hG
  have h8 := hA1.1
  have hle := hA1.2.1
  have h7 := hB1.2.2.2.1
  have e : (nI a1 = nI n) = False := eq_false (fun e => hn ((nI_eq (by omega) (by omega)).mp e))
  have e2 : ¬ 10 ≤ nI (i + 1) := nI_ge (b := 10) (by omega) (by omega)
  have e3 : ¬ nI (i + 1) ≤ 0 := nI_nle (by omega) (by omega)
  have hs := fun (Q : Option Value → gc_M → Prop) => c_sign (w := w) (d := d) (c := 59) (Q := Q) hB1 hA1.1 hA1.2.1 (by decide) (by decide)
  simp only [h59, if_true] at hs
  have hs : ∀ Q, gc_X w (d + 1) 20 0 [some (.ref f), some (.int 59)] [] (gm_m s1) Q = Q (some (.int 1)) (gm_m (gm_si s1 f 8 (nI (a1 + 1)))) := hs
  have hF2 : cF f s1 (gm_si s1 f 8 (nI (a1 + 1))) := cF_si (by decide)
  simp only [E_X1_readFrom_0, E_X1_readFrom_1, E_X1_readFrom_2r, E_X1_readFrom_2n, E_X1_readFrom_5, E_X1_readFrom_6, E_X1_readFrom_7, E_X1_readFrom_8, E_X1_readFrom_9, E_X1_readFrom_12, E_X1_readFrom_15, E_X1_readFrom_16, E_X1_readFrom_17, E_X1_readFrom_20, E_X1_readFrom_21, E_X1_readFrom_22, E_X1_readFrom_25, E_X1_readFrom_26, E_X1_readFrom_28, E_X1_readFrom_31, E_X1_readFrom_32, E_X1_readFrom_33, E_X1_readFrom_36, E_X1_readFrom_37, E_X1_readFrom_38, E_X1_readFrom_39, E_X1_readFrom_41, E_X1_readFrom_44, E_X1_readFrom_45, E_X1_readFrom_48, E_X1_readFrom_49, E_X1_readFrom_51, E_X1_readFrom_54, E_X1_readFrom_57, E_X1_readFrom_58, E_X1_readFrom_61, E_X1_readFrom_63, E_X1_readFrom_66, E_X1_readFrom_69, E_X1_readFrom_70, E_X1_readFrom_73, E_X1_readFrom_74, E_X1_readFrom_75, E_X1_readFrom_78, E_X1_readFrom_79, E_X1_readFrom_82, E_X1_readFrom_85, E_X1_readFrom_86, E_X1_readFrom_87, E_X1_readFrom_90, E_X1_readFrom_93, E_X1_readFrom_94, E_X1_readFrom_97, gF_cl hf, gF_gok hf, Fg_8 hf, Fg_7 hf, h8, h7, e, e2, e3, hs, gi_1, nI_1, g1_0, List.map_nil, List.map_cons, List.sum_cons, List.sum_nil, gcat_i, gcat_r, gcat_l, Nat.reduceAdd, Nat.reduceLeDiff, Nat.zero_le, Option.toList, List.cons_append, List.nil_append, gnk_i, gnk_r, gnk_n, gi_1, Nat.reduceLT, if_true, if_false]
  exact h2 (d + 2) _ _ Q l1 hd (cB_F hB1 hF2) (cA_8 hA1 (by omega) (by omega)) (fun s3 hG3 => hQ s3 (sG_trans hG (sG_trans (sG_F hF2) hG3)))
theorem r_X_y : 10 * nI fi + nI i = nI (10 * fi + i) := by
  have m : 10 * nI fi = nI (10 * fi) := nI_mul 10 _
  rw [m, nI_add]
theorem r_X_no1 (h : rC_no w B (10 * fi + i) n b a a1) : rX_no w B fi n b i a a1 := by
  intro d s ts Q hB hC hQ
  simp only [E_X12_goesText_0, E_X12_goesText_1, E_X12_goesText_2, E_X12_goesText_5, E_X12_goesText_6, E_X12_goesText_8, E_X12_goesText_9, E_X12_goesText_10, E_X12_goesText_13, E_X12_goesText_14, E_X12_goesText_15, E_X12_goesText_16, E_X12_goesText_18, E_X12_goesText_19, E_X12_goesText_20, E_X12_goesText_21, E_X12_goesText_22, E_X12_goesText_25, E_X12_goesText_28, E_X12_goesText_29, E_X12_goesText_30, E_X12_goesText_33, E_X12_goesText_34, E_X12_goesText_37, E_X12_goesText_38, E_X12_goesText_39, E_X12_goesText_40, E_X12_goesText_41, E_X12_goesText_44, E_X12_goesText_45, E_X12_goesText_48, E_X12_goesText_51, E_X12_goesText_52, E_X12_goesText_53, E_X12_goesText_54, E_X12_goesText_56, E_X12_goesText_59, E_X12_goesText_60, E_X12_goesText_62, E_X12_goesText_65, E_X12_goesText_68, E_X12_goesText_69, rc_137, r_X_y, List.map_nil, List.map_cons, List.sum_cons, List.sum_nil, gcat_i, gcat_r, gcat_l, Nat.reduceAdd, Nat.reduceLeDiff, Nat.zero_le, Option.toList, List.cons_append, List.nil_append, gnk_i, gnk_r, gnk_n, gi_1, Nat.reduceLT, if_true, if_false]
  refine h d s ts _ hB hC (fun s1 hH h16 => ?_)
  simp (decide := true) only [E_X12_goesText_0, E_X12_goesText_1, E_X12_goesText_2, E_X12_goesText_5, E_X12_goesText_6, E_X12_goesText_8, E_X12_goesText_9, E_X12_goesText_10, E_X12_goesText_13, E_X12_goesText_14, E_X12_goesText_15, E_X12_goesText_16, E_X12_goesText_18, E_X12_goesText_19, E_X12_goesText_20, E_X12_goesText_21, E_X12_goesText_22, E_X12_goesText_25, E_X12_goesText_28, E_X12_goesText_29, E_X12_goesText_30, E_X12_goesText_33, E_X12_goesText_34, E_X12_goesText_37, E_X12_goesText_38, E_X12_goesText_39, E_X12_goesText_40, E_X12_goesText_41, E_X12_goesText_44, E_X12_goesText_45, E_X12_goesText_48, E_X12_goesText_51, E_X12_goesText_52, E_X12_goesText_53, E_X12_goesText_54, E_X12_goesText_56, E_X12_goesText_59, E_X12_goesText_60, E_X12_goesText_62, E_X12_goesText_65, E_X12_goesText_68, E_X12_goesText_69, gb_n0, List.map_nil, List.map_cons, List.sum_cons, List.sum_nil, gcat_i, gcat_r, gcat_l, Nat.reduceAdd, Nat.reduceLeDiff, Nat.zero_le, Option.toList, List.cons_append, List.nil_append, gnk_i, gnk_r, gnk_n, gi_1, Nat.reduceLT, if_true, if_false]
  exact hQ s1 (dJ_H hH) h16
theorem r_X_end (hfi : fi < 6) (h : rC_ok w B (10 * fi + i) n b a n c) : rX_ok w B fi n b i a [c] := by
  intro d s ts Q hB hC hQ
  have i1 : vp_in (nI fi) 6 := vp_in_nI hfi (by omega)
  have i2 : (nI fi).toNatClampNeg = fi := nI_clamp (by omega)
  simp only [E_X12_goesText_0, E_X12_goesText_1, E_X12_goesText_2, E_X12_goesText_5, E_X12_goesText_6, E_X12_goesText_8, E_X12_goesText_9, E_X12_goesText_10, E_X12_goesText_13, E_X12_goesText_14, E_X12_goesText_15, E_X12_goesText_16, E_X12_goesText_18, E_X12_goesText_19, E_X12_goesText_20, E_X12_goesText_21, E_X12_goesText_22, E_X12_goesText_25, E_X12_goesText_28, E_X12_goesText_29, E_X12_goesText_30, E_X12_goesText_33, E_X12_goesText_34, E_X12_goesText_37, E_X12_goesText_38, E_X12_goesText_39, E_X12_goesText_40, E_X12_goesText_41, E_X12_goesText_44, E_X12_goesText_45, E_X12_goesText_48, E_X12_goesText_51, E_X12_goesText_52, E_X12_goesText_53, E_X12_goesText_54, E_X12_goesText_56, E_X12_goesText_59, E_X12_goesText_60, E_X12_goesText_62, E_X12_goesText_65, E_X12_goesText_68, E_X12_goesText_69, rc_137, r_X_y, List.map_nil, List.map_cons, List.sum_cons, List.sum_nil, gcat_i, gcat_r, gcat_l, Nat.reduceAdd, Nat.reduceLeDiff, Nat.zero_le, Option.toList, List.cons_append, List.nil_append, gnk_i, gnk_r, gnk_n, gi_1, Nat.reduceLT, if_true, if_false]
  refine h d s ts _ hB hC (fun s1 hH hC1 h150 h151 h15 => ?_)
  have h15f := (dB_H hB hH).2.2.1
  have h100 := hB.2.1
  have e : (nI n = nI n) = True := eq_true rfl
  simp only [E_X12_goesText_0, E_X12_goesText_1, E_X12_goesText_2, E_X12_goesText_5, E_X12_goesText_6, E_X12_goesText_8, E_X12_goesText_9, E_X12_goesText_10, E_X12_goesText_13, E_X12_goesText_14, E_X12_goesText_15, E_X12_goesText_16, E_X12_goesText_18, E_X12_goesText_19, E_X12_goesText_20, E_X12_goesText_21, E_X12_goesText_22, E_X12_goesText_25, E_X12_goesText_28, E_X12_goesText_29, E_X12_goesText_30, E_X12_goesText_33, E_X12_goesText_34, E_X12_goesText_37, E_X12_goesText_38, E_X12_goesText_39, E_X12_goesText_40, E_X12_goesText_41, E_X12_goesText_44, E_X12_goesText_45, E_X12_goesText_48, E_X12_goesText_51, E_X12_goesText_52, E_X12_goesText_53, E_X12_goesText_54, E_X12_goesText_56, E_X12_goesText_59, E_X12_goesText_60, E_X12_goesText_62, E_X12_goesText_65, E_X12_goesText_68, E_X12_goesText_69, rk_137, rc_137, rg_137_15, rg_137_16, rg_137_19, ra_149, rs_149, i1, i2, hC1.1, h15f, e, gi_1, nI_1, g1_0, gb_n1, gsi_1, Nat.reduceEqDiff, false_and, List.map_nil, List.map_cons, List.sum_cons, List.sum_nil, gcat_i, gcat_r, gcat_l, Nat.reduceAdd, Nat.reduceLeDiff, Nat.zero_le, Option.toList, List.cons_append, List.nil_append, gnk_i, gnk_r, gnk_n, gi_1, Nat.reduceLT, if_true, if_false]
  have etk : fC_tk [c] = c.2.2 := List.append_nil _
  refine hQ _ (dJ_trans (dJ_H hH) dJ_149 (Nat.le_refl _)) (fun q k hk => ?_) ?_ ?_ ⟨?_, ?_, fun q => ⟨?_, ?_⟩, trivial⟩
  · rw [gsi_1, if_neg (fun e => by omega)]
    rw [etk] at hk
    exact hC1.2.2.2.2 q k hk
  · rw [etk]
    have := hC1.2.2.2.1
    omega
  · rw [gsi_1, if_pos ⟨rfl, rfl⟩]
    rfl
  · rw [gsi_1, if_neg (fun e => by omega)]
    exact h150
  · rw [gsi_1, if_neg (fun e => by omega)]
    exact h151
  · rw [gsi_1, if_neg (fun e => by omega)]
    exact (h15 q).1
  · rw [gsi_1, if_neg (fun e => by omega)]
    exact (h15 q).2
theorem r_X_ten (hfi : fi < 6) (h : rC_ok w B (10 * fi + i) n b a a1 c) (hn : a1 ≠ n) (hi : i = 9) : rX_no w B fi n b i a a1 := by
  intro d s ts Q hB hC hQ
  have i1 : vp_in (nI fi) 6 := vp_in_nI hfi (by omega)
  have i2 : (nI fi).toNatClampNeg = fi := nI_clamp (by omega)
  simp only [E_X12_goesText_0, E_X12_goesText_1, E_X12_goesText_2, E_X12_goesText_5, E_X12_goesText_6, E_X12_goesText_8, E_X12_goesText_9, E_X12_goesText_10, E_X12_goesText_13, E_X12_goesText_14, E_X12_goesText_15, E_X12_goesText_16, E_X12_goesText_18, E_X12_goesText_19, E_X12_goesText_20, E_X12_goesText_21, E_X12_goesText_22, E_X12_goesText_25, E_X12_goesText_28, E_X12_goesText_29, E_X12_goesText_30, E_X12_goesText_33, E_X12_goesText_34, E_X12_goesText_37, E_X12_goesText_38, E_X12_goesText_39, E_X12_goesText_40, E_X12_goesText_41, E_X12_goesText_44, E_X12_goesText_45, E_X12_goesText_48, E_X12_goesText_51, E_X12_goesText_52, E_X12_goesText_53, E_X12_goesText_54, E_X12_goesText_56, E_X12_goesText_59, E_X12_goesText_60, E_X12_goesText_62, E_X12_goesText_65, E_X12_goesText_68, E_X12_goesText_69, rc_137, r_X_y, List.map_nil, List.map_cons, List.sum_cons, List.sum_nil, gcat_i, gcat_r, gcat_l, Nat.reduceAdd, Nat.reduceLeDiff, Nat.zero_le, Option.toList, List.cons_append, List.nil_append, gnk_i, gnk_r, gnk_n, gi_1, Nat.reduceLT, if_true, if_false]
  refine h d s ts _ hB hC (fun s1 hH hC1 h150 h151 h15 => ?_)
  have h15f := (dB_H hB hH).2.2.1
  have h100 := hB.2.1
  have hle := hC1.2.1
  have e : (nI a1 = nI n) = False := eq_false (fun e => hn ((nI_eq (by omega) (by omega)).mp e))
  have e10 : (nI (i + 1) = 10) = True := eq_true (by rw [hi]; rfl)
  simp only [E_X12_goesText_0, E_X12_goesText_1, E_X12_goesText_2, E_X12_goesText_5, E_X12_goesText_6, E_X12_goesText_8, E_X12_goesText_9, E_X12_goesText_10, E_X12_goesText_13, E_X12_goesText_14, E_X12_goesText_15, E_X12_goesText_16, E_X12_goesText_18, E_X12_goesText_19, E_X12_goesText_20, E_X12_goesText_21, E_X12_goesText_22, E_X12_goesText_25, E_X12_goesText_28, E_X12_goesText_29, E_X12_goesText_30, E_X12_goesText_33, E_X12_goesText_34, E_X12_goesText_37, E_X12_goesText_38, E_X12_goesText_39, E_X12_goesText_40, E_X12_goesText_41, E_X12_goesText_44, E_X12_goesText_45, E_X12_goesText_48, E_X12_goesText_51, E_X12_goesText_52, E_X12_goesText_53, E_X12_goesText_54, E_X12_goesText_56, E_X12_goesText_59, E_X12_goesText_60, E_X12_goesText_62, E_X12_goesText_65, E_X12_goesText_68, E_X12_goesText_69, rk_137, rc_137, rg_137_15, rg_137_16, rg_137_19, ra_149, rs_149, i1, i2, hC1.1, h15f, e, e10, gi_1, nI_1, g1_0, gb_n0, gsi_1, Nat.reduceEqDiff, false_and, List.map_nil, List.map_cons, List.sum_cons, List.sum_nil, gcat_i, gcat_r, gcat_l, Nat.reduceAdd, Nat.reduceLeDiff, Nat.zero_le, Option.toList, List.cons_append, List.nil_append, gnk_i, gnk_r, gnk_n, gi_1, Nat.reduceLT, if_true, if_false]
  exact hQ _ (dJ_trans (dJ_H hH) dJ_149 (Nat.le_refl _)) (by rw [gsi_1, if_neg (fun e => by omega)]; exact hC1.1)
theorem r_X_sep (hfi : fi < 6) (h : rC_ok w B (10 * fi + i) n b a a1 c) (hn : a1 ≠ n) (hi : i < 9) (h59 : xt n b a1 ≠ 59) : rX_no w B fi n b i a a1 := by
  intro d s ts Q hB hC hQ
  have i1 : vp_in (nI fi) 6 := vp_in_nI hfi (by omega)
  have i2 : (nI fi).toNatClampNeg = fi := nI_clamp (by omega)
  simp only [E_X12_goesText_0, E_X12_goesText_1, E_X12_goesText_2, E_X12_goesText_5, E_X12_goesText_6, E_X12_goesText_8, E_X12_goesText_9, E_X12_goesText_10, E_X12_goesText_13, E_X12_goesText_14, E_X12_goesText_15, E_X12_goesText_16, E_X12_goesText_18, E_X12_goesText_19, E_X12_goesText_20, E_X12_goesText_21, E_X12_goesText_22, E_X12_goesText_25, E_X12_goesText_28, E_X12_goesText_29, E_X12_goesText_30, E_X12_goesText_33, E_X12_goesText_34, E_X12_goesText_37, E_X12_goesText_38, E_X12_goesText_39, E_X12_goesText_40, E_X12_goesText_41, E_X12_goesText_44, E_X12_goesText_45, E_X12_goesText_48, E_X12_goesText_51, E_X12_goesText_52, E_X12_goesText_53, E_X12_goesText_54, E_X12_goesText_56, E_X12_goesText_59, E_X12_goesText_60, E_X12_goesText_62, E_X12_goesText_65, E_X12_goesText_68, E_X12_goesText_69, rc_137, r_X_y, List.map_nil, List.map_cons, List.sum_cons, List.sum_nil, gcat_i, gcat_r, gcat_l, Nat.reduceAdd, Nat.reduceLeDiff, Nat.zero_le, Option.toList, List.cons_append, List.nil_append, gnk_i, gnk_r, gnk_n, gi_1, Nat.reduceLT, if_true, if_false]
  refine h d s ts _ hB hC (fun s1 hH hC1 h150 h151 h15 => ?_)
  have hJ1 : dJ B fi (10 * fi + i) s (gm_si s1 149 fi (nI (i + 1))) := dJ_trans (dJ_H hH) dJ_149 (Nat.le_refl _)
  have hB1 := dB_J hB hJ1
  have hC2 : dC B n (gm_si s1 149 fi (nI (i + 1))) a1 (ts ++ c.2.2) := dC_cl hC1 (by decide)
  have h15f := (dB_H hB hH).2.2.1
  have h100 := hB.2.1
  have hle := hC1.2.1
  have e : (nI a1 = nI n) = False := eq_false (fun e => hn ((nI_eq (by omega) (by omega)).mp e))
  have e10 : (nI (i + 1) = 10) = False := eq_false (fun e => by have := (nI_eq (a := i + 1) (b := 10) (by omega) (by decide)).mp e; omega)
  have hs := fun (Q : Option Value → gc_M → Prop) => d_takes (w := w) (d := d + 4) (c := 59) (Q := Q) hB1 hC2.1 hC2.2.1 (by decide) (by decide)
  simp only [h59, if_false] at hs
  have hs : ∀ Q, gc_X w (d + 5) 125 0 [some (.ref 137), some (.int 59)] [] (gm_m (gm_si s1 149 fi (nI (i + 1)))) Q = Q (some (.int 0)) (gm_m (gm_si s1 149 fi (nI (i + 1)))) := hs
  simp only [E_X12_goesText_0, E_X12_goesText_1, E_X12_goesText_2, E_X12_goesText_5, E_X12_goesText_6, E_X12_goesText_8, E_X12_goesText_9, E_X12_goesText_10, E_X12_goesText_13, E_X12_goesText_14, E_X12_goesText_15, E_X12_goesText_16, E_X12_goesText_18, E_X12_goesText_19, E_X12_goesText_20, E_X12_goesText_21, E_X12_goesText_22, E_X12_goesText_25, E_X12_goesText_28, E_X12_goesText_29, E_X12_goesText_30, E_X12_goesText_33, E_X12_goesText_34, E_X12_goesText_37, E_X12_goesText_38, E_X12_goesText_39, E_X12_goesText_40, E_X12_goesText_41, E_X12_goesText_44, E_X12_goesText_45, E_X12_goesText_48, E_X12_goesText_51, E_X12_goesText_52, E_X12_goesText_53, E_X12_goesText_54, E_X12_goesText_56, E_X12_goesText_59, E_X12_goesText_60, E_X12_goesText_62, E_X12_goesText_65, E_X12_goesText_68, E_X12_goesText_69, rk_137, rc_137, rg_137_15, rg_137_16, rg_137_19, ra_149, rs_149, i1, i2, hC1.1, h15f, e, e10, hs, gi_1, nI_1, g1_0, gb_n0, gsi_1, Nat.reduceEqDiff, false_and, List.map_nil, List.map_cons, List.sum_cons, List.sum_nil, gcat_i, gcat_r, gcat_l, Nat.reduceAdd, Nat.reduceLeDiff, Nat.zero_le, Option.toList, List.cons_append, List.nil_append, gnk_i, gnk_r, gnk_n, gi_1, Nat.reduceLT, if_true, if_false]
  exact hQ _ hJ1 hC2.1
theorem r_X_go (hfi : fi < 6) (h : rC_ok w B (10 * fi + i) n b a a1 c) (hn : a1 ≠ n) (hi : i < 9) (h59 : xt n b a1 = 59) {d : Nat} {s : gm_S} {ts : List fT} {Q : Option Value → gc_M → Prop} (hB : dB B n b s) (hC : dC B n s a ts) (hQ : ∀ s', dJ B fi (10 * fi + i) s s' → dC B n s' (a1 + 1) (ts ++ c.2.2) → s'.1 150 (10 * fi + i) = nI c.1 → s'.1 151 (10 * fi + i) = nI c.2.1 → (c.1 ≤ 1 → s'.1 152 (10 * fi + i) = nI (B + ts.length) ∧ s'.1 153 (10 * fi + i) = nI (B + ts.length + c.2.2.length)) → gc_X w (d + 6) 137 15 [some (.ref 137), some (.int (nI fi)), some (.int (nI (i + 1)))] [] (gm_m s') Q) : gc_X w (d + 6) 137 15 [some (.ref 137), some (.int (nI fi)), some (.int (nI i))] [] (gm_m s) Q := by
  have i1 : vp_in (nI fi) 6 := vp_in_nI hfi (by omega)
  have i2 : (nI fi).toNatClampNeg = fi := nI_clamp (by omega)
  have ha1 : a1 < n := xt_lt (b := b) (by omega)
  rw [E_X12_goesText_15]
  simp only [E_X12_goesText_0, E_X12_goesText_1, E_X12_goesText_2, E_X12_goesText_5, E_X12_goesText_6, E_X12_goesText_8, E_X12_goesText_9, E_X12_goesText_10, E_X12_goesText_13, E_X12_goesText_14, E_X12_goesText_16, E_X12_goesText_18, E_X12_goesText_19, E_X12_goesText_20, E_X12_goesText_21, E_X12_goesText_22, E_X12_goesText_25, E_X12_goesText_28, E_X12_goesText_29, E_X12_goesText_30, E_X12_goesText_33, E_X12_goesText_34, E_X12_goesText_37, E_X12_goesText_38, E_X12_goesText_39, E_X12_goesText_40, E_X12_goesText_41, E_X12_goesText_44, E_X12_goesText_45, E_X12_goesText_48, E_X12_goesText_51, E_X12_goesText_52, E_X12_goesText_53, E_X12_goesText_54, E_X12_goesText_56, E_X12_goesText_59, E_X12_goesText_60, E_X12_goesText_62, E_X12_goesText_65, E_X12_goesText_68, E_X12_goesText_69, rc_137, r_X_y, List.map_nil, List.map_cons, List.sum_cons, List.sum_nil, gcat_i, gcat_r, gcat_l, Nat.reduceAdd, Nat.reduceLeDiff, Nat.zero_le, Option.toList, List.cons_append, List.nil_append, gnk_i, gnk_r, gnk_n, gi_1, Nat.reduceLT, if_true, if_false]
  refine h d s ts _ hB hC (fun s1 hH hC1 h150 h151 h15 => ?_)
  have hJ1 : dJ B fi (10 * fi + i) s (gm_si s1 149 fi (nI (i + 1))) := dJ_trans (dJ_H hH) dJ_149 (Nat.le_refl _)
  have hB1 := dB_J hB hJ1
  have hC2 : dC B n (gm_si s1 149 fi (nI (i + 1))) a1 (ts ++ c.2.2) := dC_cl hC1 (by decide)
  have h15f := (dB_H hB hH).2.2.1
  have h100 := hB.2.1
  have e : (nI a1 = nI n) = False := eq_false (fun e => hn ((nI_eq (by omega) (by omega)).mp e))
  have e10 : (nI (i + 1) = 10) = False := eq_false (fun e => by have := (nI_eq (a := i + 1) (b := 10) (by omega) (by decide)).mp e; omega)
  have hs := fun (Q : Option Value → gc_M → Prop) => d_takes (w := w) (d := d + 4) (c := 59) (Q := Q) hB1 hC2.1 hC2.2.1 (by decide) (by decide)
  simp only [h59, if_true] at hs
  have hs : ∀ Q, gc_X w (d + 5) 125 0 [some (.ref 137), some (.int 59)] [] (gm_m (gm_si s1 149 fi (nI (i + 1)))) Q = Q (some (.int 1)) (gm_m (gm_si (gm_si s1 149 fi (nI (i + 1))) 137 16 (nI (a1 + 1)))) := hs
  simp only [E_X12_goesText_0, E_X12_goesText_1, E_X12_goesText_2, E_X12_goesText_5, E_X12_goesText_6, E_X12_goesText_8, E_X12_goesText_9, E_X12_goesText_10, E_X12_goesText_13, E_X12_goesText_14, E_X12_goesText_16, E_X12_goesText_18, E_X12_goesText_19, E_X12_goesText_20, E_X12_goesText_21, E_X12_goesText_22, E_X12_goesText_25, E_X12_goesText_28, E_X12_goesText_29, E_X12_goesText_30, E_X12_goesText_33, E_X12_goesText_34, E_X12_goesText_37, E_X12_goesText_38, E_X12_goesText_39, E_X12_goesText_40, E_X12_goesText_41, E_X12_goesText_44, E_X12_goesText_45, E_X12_goesText_48, E_X12_goesText_51, E_X12_goesText_52, E_X12_goesText_53, E_X12_goesText_54, E_X12_goesText_56, E_X12_goesText_59, E_X12_goesText_60, E_X12_goesText_62, E_X12_goesText_65, E_X12_goesText_68, E_X12_goesText_69, rk_137, rc_137, rg_137_15, rg_137_16, rg_137_19, ra_149, rs_149, i1, i2, hC1.1, h15f, e, e10, hs, gi_1, nI_1, g1_0, gsi_1, Nat.reduceEqDiff, false_and, List.map_nil, List.map_cons, List.sum_cons, List.sum_nil, gcat_i, gcat_r, gcat_l, Nat.reduceAdd, Nat.reduceLeDiff, Nat.zero_le, Option.toList, List.cons_append, List.nil_append, gnk_i, gnk_r, gnk_n, gi_1, Nat.reduceLT, if_true, if_false]
  refine hQ _ (dJ_trans hJ1 dJ_16 (Nat.le_refl _)) (dC_16 hC2 (by omega) (by omega)) ?_ ?_ (fun q => ⟨?_, ?_⟩)
  · rw [gsi_1, if_neg (fun e => by omega), gsi_1, if_neg (fun e => by omega)]
    exact h150
  · rw [gsi_1, if_neg (fun e => by omega), gsi_1, if_neg (fun e => by omega)]
    exact h151
  · rw [gsi_1, if_neg (fun e => by omega), gsi_1, if_neg (fun e => by omega)]
    exact (h15 q).1
  · rw [gsi_1, if_neg (fun e => by omega), gsi_1, if_neg (fun e => by omega)]
    exact (h15 q).2
theorem r_X_ok (hfi : fi < 6) (h : rC_ok w B (10 * fi + i) n b a a1 c) (hn : a1 ≠ n) (hi : i < 9) (h59 : xt n b a1 = 59) (h2 : rX_ok w B fi n b (i + 1) (a1 + 1) cs) : rX_ok w B fi n b i a (c :: cs) := by
  intro d s ts Q hB hC hQ
  refine r_X_go hfi h hn hi h59 hB hC (fun s1 hJ1 hC1 h150 h151 h15 => ?_)
  refine h2 d s1 _ Q (dB_J hB hJ1) hC1 (fun s2 hJ2 htk hlen h149 hrx => ?_)
  have e : ts ++ c.2.2 ++ fC_tk cs = ts ++ fC_tk (c :: cs) := List.append_assoc _ _ _
  rw [e] at htk hlen
  have hk : ∀ j, 150 ≤ j → j ≤ 153 → s2.1 j (10 * fi + i) = s1.1 j (10 * fi + i) := fun j q1 q2 => hJ2.2 _ _ (by omega) (by omega) (by omega) (by omega) (by omega)
  refine hQ s2 (dJ_trans hJ1 hJ2 (by omega)) htk hlen ?_ ⟨(hk _ (by decide) (by decide)).trans h150, (hk _ (by decide) (by decide)).trans h151, fun q => ⟨(hk _ (by decide) (by decide)).trans (h15 q).1, (hk _ (by decide) (by decide)).trans (h15 q).2⟩, ?_⟩
  · rw [h149, List.length_cons]
    congr 1
    omega
  · rw [List.length_append, ← Nat.add_assoc B] at hrx
    exact hrx
theorem r_X_no2 (hfi : fi < 6) (h : rC_ok w B (10 * fi + i) n b a a1 c) (hn : a1 ≠ n) (hi : i < 9) (h59 : xt n b a1 = 59) (h2 : rX_no w B fi n b (i + 1) (a1 + 1) a2) : rX_no w B fi n b i a a2 := by
  intro d s ts Q hB hC hQ
  refine r_X_go hfi h hn hi h59 hB hC (fun s1 hJ1 hC1 h150 h151 h15 => ?_)
  exact h2 d s1 _ Q (dB_J hB hJ1) hC1 (fun s2 hJ2 h16 => hQ s2 (dJ_trans hJ1 hJ2 (by omega)) h16)
/-- from clause i on -/
def zX (w : Nat × (Nat → Int32)) (f B fi n : Nat) (b : Nat → Nat) (i a : Nat) : Prop := (∃ cs, i + cs.length ≤ 10 ∧ (∀ c, c ∈ cs → fC_ok c ∧ (1 < c.1 → c.2.2 = [])) ∧ (∀ k, k ∈ fC_flat cs → k.1 ≤ 7 ∧ k.2.1 < 6) ∧ a + (fC_flat cs).length ≤ n ∧ sX_ok w f n b i a cs ∧ rX_ok w B fi n b i a cs) ∨ ∃ a', a' ≤ n ∧ sX_no w f n b i a a' ∧ rX_no w B fi n b i a a'
theorem z_X (hb : xb n b) (hfi : fi < 6) : ∀ (m i a : Nat), i + (m + 1) = 10 → a ≤ n → zX w f B fi n b i a := by
  intro m
  induction m with
  | zero =>
    intro i a hi ha
    rcases z_C (w := w) (f := f) (B := B) (cl := 10 * fi + i) (a := a) hb ha (by omega) with ⟨a1, c, x1, x2, x3, x6, x4, x5⟩ | ⟨a1, x0, x4, x5⟩
    · by_cases hn : a1 = n
      · subst hn
        refine Or.inl ⟨[c], by rw [List.length_singleton]; omega, fun c' hc => ?_, fun k hk => ?_, ?_, s_X_end x4, r_X_end hfi x5⟩
        · rw [List.mem_singleton] at hc
          subst hc
          exact ⟨x3, x6⟩
        · have hk : k ∈ fC_steps c ++ [] := hk
          rw [List.append_nil] at hk
          exact x2.2.2 k hk
        · have := x2.1
          show a + (fC_steps c ++ []).length ≤ a1
          rw [List.append_nil]
          exact this
      · exact Or.inr ⟨a1, x2.2.1, s_X_ten x4 hn (by omega), r_X_ten hfi x5 hn (by omega)⟩
    · exact Or.inr ⟨a1, x0, s_X_no1 x4, r_X_no1 x5⟩
  | succ m ih =>
    intro i a hi ha
    rcases z_C (w := w) (f := f) (B := B) (cl := 10 * fi + i) (a := a) hb ha (by omega) with ⟨a1, c, x1, x2, x3, x6, x4, x5⟩ | ⟨a1, x0, x4, x5⟩
    · by_cases hn : a1 = n
      · subst hn
        refine Or.inl ⟨[c], by rw [List.length_singleton]; omega, fun c' hc => ?_, fun k hk => ?_, ?_, s_X_end x4, r_X_end hfi x5⟩
        · rw [List.mem_singleton] at hc
          subst hc
          exact ⟨x3, x6⟩
        · have hk : k ∈ fC_steps c ++ [] := hk
          rw [List.append_nil] at hk
          exact x2.2.2 k hk
        · have := x2.1
          show a + (fC_steps c ++ []).length ≤ a1
          rw [List.append_nil]
          exact this
      · by_cases h59 : xt n b a1 = 59
        · have ha1 : a1 < n := xt_lt (b := b) (by omega)
          rcases ih (i + 1) (a1 + 1) (by omega) (by omega) with ⟨cs, y1, y2, y3, y4, y5, y6⟩ | ⟨a2, y0, y5, y6⟩
          · refine Or.inl ⟨c :: cs, by rw [List.length_cons]; omega, fun c' hc => ?_, fun k hk => ?_, ?_, s_X_ok x4 hn (by omega) h59 y5, r_X_ok hfi x5 hn (by omega) h59 y6⟩
            · rcases List.mem_cons.mp hc with e | e
              · subst e
                exact ⟨x3, x6⟩
              · exact y2 c' e
            · have hk : k ∈ fC_steps c ++ fC_flat cs := hk
              rcases List.mem_append.mp hk with e | e
              · exact x2.2.2 k e
              · exact y3 k e
            · have := x2.1
              show a + (fC_steps c ++ fC_flat cs).length ≤ n
              rw [List.length_append]
              omega
          · exact Or.inr ⟨a2, y0, s_X_no2 x4 hn (by omega) h59 y5, r_X_no2 hfi x5 hn (by omega) h59 y6⟩
        · exact Or.inr ⟨a1, x2.2.1, s_X_sep x4 hn (by omega) h59, r_X_sep hfi x5 hn (by omega) h59⟩
    · exact Or.inr ⟨a1, x0, s_X_no1 x4, r_X_no1 x5⟩
end
