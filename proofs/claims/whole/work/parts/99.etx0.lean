/-! FIRM: E, T, F of the text, read alike by both -/
def gU (n a a1 : Nat) (u : List fT) : Prop := a + u.length ≤ a1 ∧ a1 ≤ n ∧ ∀ q, q ∈ u → q.1 ≤ 7 ∧ q.2.1 < 6
theorem gU_app {n a a1 a2 : Nat} {u1 u2 : List fT} (h1 : gU n a a1 u1) (h2 : gU n a1 a2 u2) : gU n a a2 (u1 ++ u2) := by
  obtain ⟨x1, x2, x3⟩ := h1
  obtain ⟨y1, y2, y3⟩ := h2
  refine ⟨by rw [List.length_append]; omega, y2, fun q hq => ?_⟩
  rcases List.mem_append.mp hq with h | h
  · exact x3 q h
  · exact y3 q h
theorem gU_op {n a a1 a2 t : Nat} {u1 u2 : List fT} (ht : t ≤ 7) (h1 : gU n (a + 1) a1 u1) (h2 : gU n a1 a2 u2) : gU n a a2 (u1 ++ ((t, 0, 0) :: u2)) := by
  obtain ⟨x1, x2, x3⟩ := h1
  obtain ⟨y1, y2, y3⟩ := h2
  refine ⟨by rw [List.length_append, List.length_cons]; omega, y2, fun q hq => ?_⟩
  rcases List.mem_append.mp hq with h | h
  · exact x3 q h
  · rcases List.mem_cons.mp h with e | h
    · subst e
      exact ⟨ht, (by decide : (0 : Nat) < 6)⟩
    · exact y3 q h
section
variable {w : Nat × (Nat → Int32)} {f B cl n k a : Nat} {b : Nat → Nat}
theorem cOk_le {mid pc dm dm' a1 : Nat} {L : gc_L} {u : List fT} (h : cOk w f n b mid pc dm L a a1 u) (hd : dm ≤ dm') : cOk w f n b mid pc dm' L a a1 u := fun d s ts Q q => h d s ts Q (by omega)
theorem cNo_le {mid pc dm dm' a1 : Nat} {L : gc_L} (h : cNo w f n b mid pc dm L a a1) (hd : dm ≤ dm') : cNo w f n b mid pc dm' L a a1 := fun d s ts Q q => h d s ts Q (by omega)
end
def zD (k : Nat) : Nat := 6 + 3 * (4 - k)
def zS (w : Nat × (Nat → Int32)) (f B cl n : Nat) (b : Nat → Nat) (k a : Nat) : Prop := (∃ a1 u, a < a1 ∧ gU n a a1 u ∧ fW (1 + 2 * (4 - k)) u ∧ cOk w f n b 15 0 (zD k) [some (.ref f), some (.int (nI k)), none] a a1 u ∧ dS_ok w B cl n b k a a1 u) ∨ ∃ a1, a1 ≤ n ∧ cNo w f n b 15 0 (zD k) [some (.ref f), some (.int (nI k)), none] a a1 ∧ dS_no w B cl n b k a a1
def zL (w : Nat × (Nat → Int32)) (f B cl n : Nat) (b : Nat → Nat) (k a : Nat) : Prop := (∃ a1 u, gU n a a1 u ∧ (∀ ts, fW (2 + 2 * (4 - k)) ts → fW (2 + 2 * (4 - k)) (ts ++ u)) ∧ xt n b a1 ≠ 38 ∧ (∀ o, cG w f n b (zD k + 1) k o o a a1 u) ∧ dL_ok w B cl n b k a a1 u) ∨ ∃ a1, a1 ≤ n ∧ (∀ o, cJN w f n b (zD k + 1) k o a a1) ∧ dL_no w B cl n b k a a1
def zE (w : Nat × (Nat → Int32)) (f B cl n : Nat) (b : Nat → Nat) (k a : Nat) : Prop := (∃ a1 u, a < a1 ∧ gU n a a1 u ∧ fW (3 + 2 * (4 - k)) u ∧ xt n b a1 ≠ 38 ∧ xt n b a1 ≠ 124 ∧ cOk w f n b 13 0 (zD k + 1 + 1) [some (.ref f), some (.int (nI k)), none, none, none] a a1 u ∧ dE_ok w B cl n b k a a1 u) ∨ ∃ a1, a1 ≤ n ∧ cNo w f n b 13 0 (zD k + 1 + 1) [some (.ref f), some (.int (nI k)), none, none, none] a a1 ∧ dE_no w B cl n b k a a1
def zM (w : Nat × (Nat → Int32)) (f B cl n : Nat) (b : Nat → Nat) (k a : Nat) : Prop := (∃ a1 u, gU n a a1 u ∧ (∀ ts, fW (3 + 2 * (4 - k)) ts → fW (3 + 2 * (4 - k)) (ts ++ u)) ∧ xt n b a1 ≠ 38 ∧ xt n b a1 ≠ 124 ∧ (∀ o, o ≤ 1 → cJ w f n b (zD k + 1) k o a a1 u) ∧ dM_ok w B cl n b k a a1 u) ∨ ∃ a1, a1 ≤ n ∧ (∀ o, o ≤ 1 → cJN w f n b (zD k + 1) k o a a1) ∧ dM_no w B cl n b k a a1
section
variable {w : Nat × (Nat → Int32)} {f B cl n k a : Nat} {b : Nat → Nat}
theorem z_S (hb : xb n b) (ha : a ≤ n) (hk : k ≤ 4) (hcl : cl < 60) (i1 : a + 1 ≤ n → k < 4 → zS w f B cl n b (k + 1) (a + 1)) (i2 : a + 1 ≤ n → k < 4 → zE w f B cl n b (k + 1) (a + 1)) : zS w f B cl n b k a := by
  have hD : 6 ≤ zD k := by unfold zD; omega
  by_cases h33 : xt n b a = 33
  · have ha : a < n := xt_lt (b := b) (by omega)
    by_cases h4 : k < 4
    · have hD1 : zD (k + 1) + 1 ≤ zD k := by unfold zD; omega
      rcases i1 (by omega) h4 with ⟨a1, u, x1, x2, x3, x4, x5⟩ | ⟨a1, x0, x4, x5⟩
      · refine Or.inl ⟨a1, u ++ [(3, 0, 0)], by omega, ?_, fW_le (fW_not x3) (by omega), cOk_le (c_s_not h33 h4 x2.1 x4 (by unfold zD; omega)) hD1, d_S_not h33 h4 x5⟩
        obtain ⟨y1, y2, y3⟩ := x2
        refine ⟨by rw [List.length_append, List.length_singleton]; omega, y2, fun q hq => ?_⟩
        rcases List.mem_append.mp hq with h | h
        · exact y3 q h
        · rw [List.mem_singleton] at h
          subst h
          exact ⟨by decide, by decide⟩
      · exact Or.inr ⟨a1, x0, cNo_le (c_s_notN h33 h4 x4) hD1, d_S_notN h33 h4 x5⟩
    · exact Or.inr ⟨a, by omega, c_s_deep (Or.inl h33) (by omega) (by omega) (by omega), d_S_deep (Or.inl h33) (by omega)⟩
  by_cases h40 : xt n b a = 40
  · have ha : a < n := xt_lt (b := b) (by omega)
    by_cases h4 : k < 4
    · have hD1 : zD (k + 1) + 1 + 1 + 1 ≤ zD k := by unfold zD; omega
      rcases i2 (by omega) h4 with ⟨a1, u, x1, x2, x3, q38, q124, x4, x5⟩ | ⟨a1, x0, x4, x5⟩
      · by_cases h41 : xt n b a1 = 41
        · have ha1 : a1 < n := xt_lt (b := b) (by omega)
          refine Or.inl ⟨a1 + 1, u, by omega, ⟨?_, by omega, x2.2.2⟩, fW_le x3 (by omega), cOk_le (c_s_par h40 h4 x4 x2.1 h41 (by omega)) hD1, d_S_par h40 h4 hcl x5 h41⟩
          have := x2.1
          omega
        · exact Or.inr ⟨a1, x2.2.1, cNo_le (c_s_parN2 h40 h4 x4 h41 (by omega)) hD1, d_S_parN2 h40 h4 hcl x5 q38 q124 h41⟩
      · exact Or.inr ⟨a1, x0, cNo_le (c_s_parN1 h40 h4 x4) hD1, d_S_parN1 h40 h4 x5⟩
    · exact Or.inr ⟨a, by omega, c_s_deep (Or.inr h40) (by omega) (by omega) (by omega), d_S_deep (Or.inr h40) (by omega)⟩
  by_cases hl : xl (xt n b a) < 6
  · by_cases hh : xh (xt n b (a + 1)) < 3
    · cases hp : pN (xt n b) (a + 2) with
      | none => exact Or.inr ⟨a + 2, (by have := xt_lt (n := n) (b := b) (xh_pos hh); omega), cNo_le (c_s_testN h33 h40 (c_test_no3 hl hh hp)) (by omega), d_S_no3 h33 h40 hl hh hp⟩
      | some r =>
        obtain ⟨a', v⟩ := r
        have hlt := pN_lt hp
        refine Or.inl ⟨a', _, by omega, ⟨by rw [List.length_singleton]; omega, by omega, fun q hq => ?_⟩, fW_le (fW_test hh hl hlt.2.2) (by omega), cOk_le (c_s_test h33 h40 (c_test_ok hl hh hp)) (by omega), d_S_test h33 h40 hl hh hp⟩
        rw [List.mem_singleton] at hq
        subst hq
        exact ⟨by show xh _ ≤ 7; omega, hl⟩
    · exact Or.inr ⟨a + 1, (by have := xt_lt (n := n) (b := b) (xl_pos hl); omega), cNo_le (c_s_testN h33 h40 (c_test_no2 hl hh)) (by omega), d_S_no2 h33 h40 hl hh⟩
  · exact Or.inr ⟨a, ha, cNo_le (c_s_testN h33 h40 (c_test_no1 hl)) (by omega), d_S_no1 h33 h40 hl⟩
theorem z_L (ha : a ≤ n) (ih : ∀ a', a < a' → a' ≤ n → zS w f B cl n b k a' ∧ zL w f B cl n b k a') : zL w f B cl n b k a := by
  by_cases h : xt n b a = 38
  · have ha' : a < n := xt_lt (b := b) (by omega)
    rcases (ih (a + 1) (by omega) (by omega)).1 with ⟨a1, u1, x1, x2, x3, x4, x5⟩ | ⟨a1, x0, x4, x5⟩
    · rcases (ih a1 (by omega) x2.2.1).2 with ⟨a2, u2, y2, y3, y6, y4, y5⟩ | ⟨a2, y0, y4, y5⟩
      · refine Or.inl ⟨a2, u1 ++ ((4, 0, 0) :: u2), gU_op (by decide) x2 y2, fun ts ht => ?_, y6, fun o => ?_, d_L_ok h x5 y5⟩
        · have e0 : fW (1 + 2 * (4 - k) + 1) (ts ++ (u1 ++ [(4, 0, 0)])) := fW_two (Or.inl rfl) (fW_le ht (by omega)) x3
          have e := y3 _ (fW_le e0 (by omega))
          simpa only [List.append_assoc, List.cons_append, List.nil_append] using e
        · have e := c_gg (c_g_and (o := o) h x2.1 x4) (y4 o)
          simpa only [List.append_assoc, List.cons_append, List.nil_append] using e
      · exact Or.inr ⟨a2, y0, fun o => c_gn (c_g_and h x2.1 x4) (y4 o), d_L_no2 h x5 y5⟩
    · exact Or.inr ⟨a1, x0, fun o => c_g_andN h x4, d_L_no1 h x5⟩
  · exact Or.inl ⟨a, [], ⟨by simp, ha, fun q hq => by cases hq⟩, fun ts ht => by rw [List.append_nil]; exact ht, h, fun o => c_g_none, d_L_stop⟩
theorem z_M (ha : a ≤ n) (h38 : xt n b a ≠ 38) (ih : ∀ a', a < a' → a' ≤ n → zS w f B cl n b k a' ∧ zL w f B cl n b k a' ∧ (xt n b a' ≠ 38 → zM w f B cl n b k a')) : zM w f B cl n b k a := by
  by_cases h : xt n b a = 124
  · have ha' : a < n := xt_lt (b := b) (by omega)
    rcases (ih (a + 1) (by omega) (by omega)).1 with ⟨a1, u1, x1, x2, x3, x4, x5⟩ | ⟨a1, x0, x4, x5⟩
    · rcases (ih a1 (by omega) x2.2.1).2.1 with ⟨a2, u2, y2, y3, y6, y4, y5⟩ | ⟨a2, y0, y4, y5⟩
      · have hle : a1 ≤ a2 := by have := y2.1; omega
        rcases (ih a2 (by omega) y2.2.1).2.2 y6 with ⟨a3, u3, z2, z3, z6, z7, z4, z5⟩ | ⟨a3, z0, z4, z5⟩
        · refine Or.inl ⟨a3, (u1 ++ u2) ++ ((5, 0, 0) :: u3), gU_op (by decide) (gU_app x2 y2) z2, fun ts ht => ?_, z6, z7, fun o ho => ?_, d_M_ok h (d_T_ok x5 y5) z5⟩
          · have e0 : fW (2 + 2 * (4 - k) + 1) (ts ++ ((u1 ++ u2) ++ [(5, 0, 0)])) := fW_two (Or.inr rfl) (fW_le ht (by omega)) (y3 _ (fW_le x3 (by omega)))
            have e := z3 _ (fW_le e0 (by omega))
            simpa only [List.append_assoc, List.cons_append, List.nil_append] using e
          · refine c_gj (c_gg (c_g_bar ho h x2.1 x4) (y4 1)) (z4 1 (Nat.le_refl _)) ?_
            show zO o ++ ((u1 ++ u2) ++ ((5, 0, 0) :: u3)) = ((zO o ++ u1) ++ u2) ++ ([(5, 0, 0)] ++ u3)
            simp only [List.append_assoc, List.cons_append, List.nil_append]
        · exact Or.inr ⟨a3, z0, fun o ho => c_gn (c_gg (c_g_bar ho h x2.1 x4) (y4 1)) (z4 1 (Nat.le_refl _)), d_M_no2 h (d_T_ok x5 y5) z5⟩
      · exact Or.inr ⟨a2, y0, fun o ho => c_gn (c_g_bar ho h x2.1 x4) (y4 1), d_M_no1 h (d_T_no2 x5 y5)⟩
    · exact Or.inr ⟨a1, x0, fun o ho => c_g_barN ho h x4, d_M_no1 h (d_T_no1 x5)⟩
  · exact Or.inl ⟨a, [], ⟨by simp, ha, fun q hq => by cases hq⟩, fun ts ht => by rw [List.append_nil]; exact ht, h38, h, fun o ho => c_j_stop ho h38 h, d_M_stop⟩
theorem z_E (h1 : zS w f B cl n b k a) (ih : ∀ a', a < a' → a' ≤ n → zL w f B cl n b k a' ∧ (xt n b a' ≠ 38 → zM w f B cl n b k a')) : zE w f B cl n b k a := by
  rcases h1 with ⟨a1, u1, x1, x2, x3, x4, x5⟩ | ⟨a1, x0, x4, x5⟩
  · rcases (ih a1 x1 x2.2.1).1 with ⟨a2, u2, y2, y3, y6, y4, y5⟩ | ⟨a2, y0, y4, y5⟩
    · have hle : a1 ≤ a2 := by have := y2.1; omega
      rcases (ih a2 (by omega) y2.2.1).2 y6 with ⟨a3, u3, z2, z3, z6, z7, z4, z5⟩ | ⟨a3, z0, z4, z5⟩
      · have hle2 : a2 ≤ a3 := by have := z2.1; omega
        have e : cJ w f n b (zD k + 1) k 0 a1 a3 (u2 ++ u3) := c_gj (y4 0) (z4 0 (Nat.zero_le _)) rfl
        have e2 := cOk_le (c_e_ok x4 e) (Nat.le_succ _)
        rw [← List.append_assoc] at e2
        exact Or.inl ⟨a3, (u1 ++ u2) ++ u3, by omega, gU_app (gU_app x2 y2) z2, z3 _ (fW_le (y3 _ (fW_le x3 (by omega))) (by omega)), z6, z7, e2, d_E_ok (d_T_ok x5 y5) z5⟩
      · exact Or.inr ⟨a3, z0, cNo_le (c_e_no2 x4 (c_gn (y4 0) (z4 0 (Nat.zero_le _)))) (Nat.le_succ _), d_E_no2 (d_T_ok x5 y5) z5⟩
    · exact Or.inr ⟨a2, y0, cNo_le (c_e_no2 x4 (y4 0)) (Nat.le_succ _), d_E_no1 (d_T_no2 x5 y5)⟩
  · exact Or.inr ⟨a1, x0, cNo_le (c_e_no1 x4) (Nat.le_succ _), d_E_no1 (d_T_no1 x5)⟩
theorem z_all (hb : xb n b) (hcl : cl < 60) : ∀ (N a : Nat), n - a < N → a ≤ n → ∀ k, k ≤ 4 → zS w f B cl n b k a ∧ zL w f B cl n b k a ∧ (xt n b a ≠ 38 → zM w f B cl n b k a) ∧ zE w f B cl n b k a := by
  intro N
  induction N with
  | zero => intro a h; omega
  | succ N ih =>
    intro a hN ha k hk
    have h1 : zS w f B cl n b k a := z_S hb ha hk hcl (fun q1 q2 => (ih (a + 1) (by omega) q1 (k + 1) (by omega)).1) (fun q1 q2 => (ih (a + 1) (by omega) q1 (k + 1) (by omega)).2.2.2)
    have h2 : zL w f B cl n b k a := z_L ha (fun a' q1 q2 => ⟨(ih a' (by omega) q2 k hk).1, (ih a' (by omega) q2 k hk).2.1⟩)
    have h4 : xt n b a ≠ 38 → zM w f B cl n b k a := fun h38 => z_M ha h38 (fun a' q1 q2 => ⟨(ih a' (by omega) q2 k hk).1, (ih a' (by omega) q2 k hk).2.1, (ih a' (by omega) q2 k hk).2.2.1⟩)
    have h5 : zE w f B cl n b k a := z_E h1 (fun a' q1 q2 => ⟨(ih a' (by omega) q2 k hk).2.1, (ih a' (by omega) q2 k hk).2.2.1⟩)
    exact ⟨h1, h2, h4, h5⟩
/-- either of a whole clause -/
theorem z_top (hb : xb n b) (hcl : cl < 60) (ha : a ≤ n) : zE w f B cl n b 0 a := (z_all hb hcl (n - a + 1) a (by omega) ha 0 (by omega)).2.2.2
end
