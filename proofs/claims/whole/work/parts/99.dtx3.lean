/-! FIRM, the reference: F, T, E as takesE reads them -/
def dS_ok (w : Nat × (Nat → Int32)) (B cl n : Nat) (b : Nat → Nat) (k a a1 : Nat) (u : List fT) : Prop := ∀ (d m o : Nat) (V : List Nat) (ts : List fT) (s : gm_S) (Q : Option Value → gc_M → Prop) (l3 : Option Value), o + m = k → V.getLast? ≠ some 33 → dB B n b s → dA B n s a (V ++ List.replicate m 33) (o + m) ts → (∀ s' l3', dF B cl s s' → dA B n s' a1 V o (ts ++ u ++ List.replicate m (3, 0, 0)) → gc_X w (d + 4) 134 22 [some (.ref 137), some (.int (nI cl)), some (.int 0), l3'] [] (gm_m s') Q) → gc_X w (d + 4) 134 22 [some (.ref 137), some (.int (nI cl)), some (.int 1), l3] [] (gm_m s) Q
def dS_no (w : Nat × (Nat → Int32)) (B cl n : Nat) (b : Nat → Nat) (k a a1 : Nat) : Prop := ∀ (d : Nat) (W : List Nat) (ts : List fT) (s : gm_S) (Q : Option Value → gc_M → Prop) (l3 : Option Value), dB B n b s → dA B n s a W k ts → (∀ s', dF B cl s s' → s'.1 137 16 = nI a1 → Q (some (.int 0)) (gm_m s')) → gc_X w (d + 4) 134 22 [some (.ref 137), some (.int (nI cl)), some (.int 1), l3] [] (gm_m s) Q
def dT_ok (w : Nat × (Nat → Int32)) (B cl n : Nat) (b : Nat → Nat) (k a a1 : Nat) (u : List fT) : Prop := ∀ (d : Nat) (V : List Nat) (p : Bool) (ts : List fT) (s : gm_S) (Q : Option Value → gc_M → Prop) (l3 : Option Value), vO V → dB B n b s → dA B n s a (V ++ wO p) k ts → (∀ s' l3' q' ts', dF B cl s s' → dA B n s' a1 (V ++ wO p ++ wA q') k ts' → ts' ++ oA q' = ts ++ u → gc_X w (d + 4) 134 22 [some (.ref 137), some (.int (nI cl)), some (.int 0), l3'] [] (gm_m s') Q) → gc_X w (d + 4) 134 22 [some (.ref 137), some (.int (nI cl)), some (.int 1), l3] [] (gm_m s) Q
def dT_no (w : Nat × (Nat → Int32)) (B cl n : Nat) (b : Nat → Nat) (k a a1 : Nat) : Prop := ∀ (d : Nat) (V : List Nat) (p : Bool) (ts : List fT) (s : gm_S) (Q : Option Value → gc_M → Prop) (l3 : Option Value), vO V → dB B n b s → dA B n s a (V ++ wO p) k ts → (∀ s', dF B cl s s' → s'.1 137 16 = nI a1 → Q (some (.int 0)) (gm_m s')) → gc_X w (d + 4) 134 22 [some (.ref 137), some (.int (nI cl)), some (.int 1), l3] [] (gm_m s) Q
def dL_ok (w : Nat × (Nat → Int32)) (B cl n : Nat) (b : Nat → Nat) (k a a1 : Nat) (u : List fT) : Prop := ∀ (d : Nat) (V : List Nat) (p q : Bool) (ts : List fT) (s : gm_S) (Q : Option Value → gc_M → Prop) (l3 : Option Value), vO V → dB B n b s → dA B n s a (V ++ wO p ++ wA q) k ts → (∀ s' l3' q' ts', dF B cl s s' → dA B n s' a1 (V ++ wO p ++ wA q') k ts' → ts' ++ oA q' = ts ++ oA q ++ u → gc_X w (d + 4) 134 22 [some (.ref 137), some (.int (nI cl)), some (.int 0), l3'] [] (gm_m s') Q) → gc_X w (d + 4) 134 22 [some (.ref 137), some (.int (nI cl)), some (.int 0), l3] [] (gm_m s) Q
def dL_no (w : Nat × (Nat → Int32)) (B cl n : Nat) (b : Nat → Nat) (k a a1 : Nat) : Prop := ∀ (d : Nat) (V : List Nat) (p q : Bool) (ts : List fT) (s : gm_S) (Q : Option Value → gc_M → Prop) (l3 : Option Value), vO V → dB B n b s → dA B n s a (V ++ wO p ++ wA q) k ts → (∀ s', dF B cl s s' → s'.1 137 16 = nI a1 → Q (some (.int 0)) (gm_m s')) → gc_X w (d + 4) 134 22 [some (.ref 137), some (.int (nI cl)), some (.int 0), l3] [] (gm_m s) Q
def dE_ok (w : Nat × (Nat → Int32)) (B cl n : Nat) (b : Nat → Nat) (k a a1 : Nat) (u : List fT) : Prop := ∀ (d : Nat) (V : List Nat) (ts : List fT) (s : gm_S) (Q : Option Value → gc_M → Prop) (l3 : Option Value), vO V → dB B n b s → dA B n s a V k ts → (∀ s' l3' p' q' ts', dF B cl s s' → dA B n s' a1 (V ++ wO p' ++ wA q') k ts' → ts' ++ oA q' ++ oO p' = ts ++ u → gc_X w (d + 4) 134 22 [some (.ref 137), some (.int (nI cl)), some (.int 0), l3'] [] (gm_m s') Q) → gc_X w (d + 4) 134 22 [some (.ref 137), some (.int (nI cl)), some (.int 1), l3] [] (gm_m s) Q
def dE_no (w : Nat × (Nat → Int32)) (B cl n : Nat) (b : Nat → Nat) (k a a1 : Nat) : Prop := ∀ (d : Nat) (V : List Nat) (ts : List fT) (s : gm_S) (Q : Option Value → gc_M → Prop) (l3 : Option Value), vO V → dB B n b s → dA B n s a V k ts → (∀ s', dF B cl s s' → s'.1 137 16 = nI a1 → Q (some (.int 0)) (gm_m s')) → gc_X w (d + 4) 134 22 [some (.ref 137), some (.int (nI cl)), some (.int 1), l3] [] (gm_m s) Q
def dM_ok (w : Nat × (Nat → Int32)) (B cl n : Nat) (b : Nat → Nat) (k a a1 : Nat) (u : List fT) : Prop := ∀ (d : Nat) (V : List Nat) (p q : Bool) (ts : List fT) (s : gm_S) (Q : Option Value → gc_M → Prop) (l3 : Option Value), vO V → dB B n b s → dA B n s a (V ++ wO p ++ wA q) k ts → (∀ s' l3' p' q' ts', dF B cl s s' → dA B n s' a1 (V ++ wO p' ++ wA q') k ts' → ts' ++ oA q' ++ oO p' = ts ++ oA q ++ oO p ++ u → gc_X w (d + 4) 134 22 [some (.ref 137), some (.int (nI cl)), some (.int 0), l3'] [] (gm_m s') Q) → gc_X w (d + 4) 134 22 [some (.ref 137), some (.int (nI cl)), some (.int 0), l3] [] (gm_m s) Q
def dM_no (w : Nat × (Nat → Int32)) (B cl n : Nat) (b : Nat → Nat) (k a a1 : Nat) : Prop := ∀ (d : Nat) (V : List Nat) (p q : Bool) (ts : List fT) (s : gm_S) (Q : Option Value → gc_M → Prop) (l3 : Option Value), vO V → dB B n b s → dA B n s a (V ++ wO p ++ wA q) k ts → (∀ s', dF B cl s s' → s'.1 137 16 = nI a1 → Q (some (.int 0)) (gm_m s')) → gc_X w (d + 4) 134 22 [some (.ref 137), some (.int (nI cl)), some (.int 0), l3] [] (gm_m s) Q
theorem dO_0 : wA false = [] := rfl
theorem dO_1 : wA true = [38] := rfl
theorem dO_2 : wO false = [] := rfl
theorem dO_3 : wO true = [124] := rfl
theorem dO_4 : oA false = [] := rfl
theorem dO_5 : oA true = [(4, 0, 0)] := rfl
theorem dO_6 : oO false = [] := rfl
theorem dO_7 : oO true = [(5, 0, 0)] := rfl
section
variable {w : Nat × (Nat → Int32)} {d B cl n a a1 a2 c o k : Nat} {b : Nat → Nat} {s : gm_S} {V W : List Nat} {ts u u1 u2 : List fT} {Q : Option Value → gc_M → Prop} {l3 : Option Value}
theorem d_S_test {a' v : Nat} (h33 : xt n b a ≠ 33) (h40 : xt n b a ≠ 40) (h : xl (xt n b a) < 6) (h2 : xh (xt n b (a + 1)) < 3) (h3 : pN (xt n b) (a + 2) = some (a', v)) : dS_ok w B cl n b k a a' [(xh (xt n b (a + 1)), xl (xt n b a), v)] := by
  intro d m o V ts s Q l3 hk hV hB hA hQ
  exact d_st_testY (P := fun s' => dF B cl s s' ∧ dA B n s' a' V o (ts ++ [(xh (xt n b (a + 1)), xl (xt n b a), v)] ++ List.replicate m (3, 0, 0))) h33 h40 hB hA (fun Q hQ => d_test_ok (cl := cl) hB hA hV h h2 h3 (fun s' hF hA' => hQ s' ⟨hF, hA'⟩)) (fun s' l3' hP => hQ s' l3' hP.1 hP.2)
theorem d_S_no1 (h33 : xt n b a ≠ 33) (h40 : xt n b a ≠ 40) (h : ¬ xl (xt n b a) < 6) : dS_no w B cl n b k a a := by
  intro d W ts s Q l3 hB hA hQ
  exact d_st_test (a1 := a) h33 h40 hB hA (fun Q hQ => d_test_no1 hB hA h (hQ s hA.1 dF_refl)) (fun s' h1 hF => hQ s' hF h1)
theorem d_S_no2 (h33 : xt n b a ≠ 33) (h40 : xt n b a ≠ 40) (h : xl (xt n b a) < 6) (h2 : ¬ xh (xt n b (a + 1)) < 3) : dS_no w B cl n b k a (a + 1) := by
  intro d W ts s Q l3 hB hA hQ
  exact d_st_test (a1 := a + 1) h33 h40 hB hA (fun Q hQ => d_test_no2 (cl := cl) hB hA h h2 (fun s' hF h1 => hQ s' h1 hF)) (fun s' h1 hF => hQ s' hF h1)
theorem d_S_no3 (h33 : xt n b a ≠ 33) (h40 : xt n b a ≠ 40) (h : xl (xt n b a) < 6) (h2 : xh (xt n b (a + 1)) < 3) (h3 : pN (xt n b) (a + 2) = none) : dS_no w B cl n b k a (a + 2) := by
  intro d W ts s Q l3 hB hA hQ
  exact d_st_test (a1 := a + 2) h33 h40 hB hA (fun Q hQ => d_test_no3 (cl := cl) hB hA h h2 h3 (fun s' hF h1 => hQ s' h1 hF)) (fun s' h1 hF => hQ s' hF h1)
theorem d_S_deep (hc : xt n b a = 33 ∨ xt n b a = 40) (hk : k = 4) : dS_no w B cl n b k a a := by
  intro d W ts s Q l3 hB hA hQ
  exact d_st_deep hc rfl hk hB hA (hQ s dF_refl hA.1)
theorem d_S_not (hx : xt n b a = 33) (hk : k < 4) (h1 : dS_ok w B cl n b (k + 1) (a + 1) a1 u) : dS_ok w B cl n b k a a1 (u ++ [(3, 0, 0)]) := by
  intro d m o V ts s Q l3 hm hV hB hA hQ
  refine d_st_open (cl := cl) (Or.inl rfl) hx (by omega) hB hA (fun s1 l31 hF1 hA1 => ?_)
  have e : V ++ List.replicate m 33 ++ [33] = V ++ List.replicate (m + 1) 33 := by rw [List.replicate_succ', List.append_assoc]
  rw [e] at hA1
  refine h1 d (m + 1) o V ts s1 Q l31 (by omega) hV (dB_F hB hF1) hA1 (fun s2 l32 hF2 hA2 => hQ s2 l32 (dF_trans hF1 hF2) ?_)
  have e2 : ts ++ u ++ List.replicate (m + 1) ((3, 0, 0) : fT) = ts ++ (u ++ [(3, 0, 0)]) ++ List.replicate m (3, 0, 0) := by
    rw [List.replicate_succ]
    simp only [List.append_assoc, List.cons_append, List.nil_append]
  rw [e2] at hA2
  exact hA2
theorem d_S_notN (hx : xt n b a = 33) (hk : k < 4) (h1 : dS_no w B cl n b (k + 1) (a + 1) a1) : dS_no w B cl n b k a a1 := by
  intro d W ts s Q l3 hB hA hQ
  refine d_st_open (cl := cl) (Or.inl rfl) hx hk hB hA (fun s1 l31 hF1 hA1 => ?_)
  exact h1 d _ ts s1 Q l31 (dB_F hB hF1) hA1 (fun s2 hF2 h16 => hQ s2 (dF_trans hF1 hF2) h16)
theorem d_S_par (hx : xt n b a = 40) (hk : k < 4) (hcl : cl < 60) (h1 : dE_ok w B cl n b (k + 1) (a + 1) a1 u) (h41 : xt n b a1 = 41) : dS_ok w B cl n b k a (a1 + 1) u := by
  intro d m o V ts s Q l3 hm hV hB hA hQ
  refine d_st_open (cl := cl) (Or.inr rfl) hx (by omega) hB hA (fun s1 l31 hF1 hA1 => ?_)
  rw [hm] at hA1
  refine h1 d _ ts s1 Q l31 (Or.inr ⟨_, rfl⟩) (dB_F hB hF1) hA1 (fun s2 l32 p' q' ts' hF2 hA2 e2 => ?_)
  have hk2 : k + 1 = o + m + 1 := by omega
  rw [hk2] at hA2
  refine d_st_shut (cl := cl) (d := d + 2) h41 hcl hV (dB_F hB (dF_trans hF1 hF2)) hA2 (fun s3 l33 hF3 hA3 => hQ s3 l33 (dF_trans hF1 (dF_trans hF2 hF3)) ?_)
  rw [e2] at hA3
  exact hA3
theorem d_S_parN1 (hx : xt n b a = 40) (hk : k < 4) (h1 : dE_no w B cl n b (k + 1) (a + 1) a1) : dS_no w B cl n b k a a1 := by
  intro d W ts s Q l3 hB hA hQ
  refine d_st_open (cl := cl) (Or.inr rfl) hx hk hB hA (fun s1 l31 hF1 hA1 => ?_)
  exact h1 d _ ts s1 Q l31 (Or.inr ⟨_, rfl⟩) (dB_F hB hF1) hA1 (fun s2 hF2 h16 => hQ s2 (dF_trans hF1 hF2) h16)
theorem d_S_parN2 (hx : xt n b a = 40) (hk : k < 4) (hcl : cl < 60) (h1 : dE_ok w B cl n b (k + 1) (a + 1) a1 u) (h38 : xt n b a1 ≠ 38) (h124 : xt n b a1 ≠ 124) (h41 : xt n b a1 ≠ 41) : dS_no w B cl n b k a a1 := by
  intro d W ts s Q l3 hB hA hQ
  refine d_st_open (cl := cl) (Or.inr rfl) hx hk hB hA (fun s1 l31 hF1 hA1 => ?_)
  refine h1 d _ ts s1 Q l31 (Or.inr ⟨_, rfl⟩) (dB_F hB hF1) hA1 (fun s2 l32 p' q' ts' hF2 hA2 e2 => ?_)
  exact d_st_shutN (cl := cl) (d := d + 2) h38 h124 h41 hcl (dB_F hB (dF_trans hF1 hF2)) hA2 (fun s3 hF3 h16 => hQ s3 (dF_trans hF1 (dF_trans hF2 hF3)) h16)
theorem d_T_ok (h1 : dS_ok w B cl n b k a a1 u1) (h2 : dL_ok w B cl n b k a1 a2 u2) : dT_ok w B cl n b k a a2 (u1 ++ u2) := by
  intro d V p ts s Q l3 hV hB hA hQ
  refine h1 d 0 k (V ++ wO p) ts s Q l3 rfl (vO_l hV (by decide) (by decide)) hB (by rw [List.replicate_zero, List.append_nil]; exact hA) (fun s1 l31 hF1 hA1 => ?_)
  rw [List.replicate_zero, List.append_nil] at hA1
  refine h2 d V p false (ts ++ u1) s1 Q l31 hV (dB_F hB hF1) (by rw [dO_0, List.append_nil]; exact hA1) (fun s2 l32 q' ts' hF2 hA2 e => hQ s2 l32 q' ts' (dF_trans hF1 hF2) hA2 ?_)
  rw [e, dO_4, List.append_nil, List.append_assoc]
theorem d_T_no1 (h1 : dS_no w B cl n b k a a1) : dT_no w B cl n b k a a1 := by
  intro d V p ts s Q l3 hV hB hA hQ
  exact h1 d _ ts s Q l3 hB hA hQ
theorem d_T_no2 (h1 : dS_ok w B cl n b k a a1 u1) (h2 : dL_no w B cl n b k a1 a2) : dT_no w B cl n b k a a2 := by
  intro d V p ts s Q l3 hV hB hA hQ
  refine h1 d 0 k (V ++ wO p) ts s Q l3 rfl (vO_l hV (by decide) (by decide)) hB (by rw [List.replicate_zero, List.append_nil]; exact hA) (fun s1 l31 hF1 hA1 => ?_)
  rw [List.replicate_zero, List.append_nil] at hA1
  exact h2 d V p false (ts ++ u1) s1 Q l31 hV (dB_F hB hF1) (by rw [dO_0, List.append_nil]; exact hA1) (fun s2 hF2 h16 => hQ s2 (dF_trans hF1 hF2) h16)
theorem d_L_stop : dL_ok w B cl n b k a a [] := by
  intro d V p q ts s Q l3 hV hB hA hQ
  exact hQ s l3 q ts dF_refl hA (by rw [List.append_nil])
theorem d_L_ok (hx : xt n b a = 38) (h1 : dS_ok w B cl n b k (a + 1) a1 u1) (h2 : dL_ok w B cl n b k a1 a2 u2) : dL_ok w B cl n b k a a2 (u1 ++ ((4, 0, 0) :: u2)) := by
  intro d V p q ts s Q l3 hV hB hA hQ
  refine d_st_and (cl := cl) (d := d + 2) hx hV hB hA (fun s1 l31 hF1 hA1 => ?_)
  refine h1 d 0 k (V ++ wO p ++ [38]) _ s1 Q l31 rfl (by rw [List.getLast?_concat]; decide) (dB_F hB hF1) (by rw [List.replicate_zero, List.append_nil]; exact hA1) (fun s2 l32 hF2 hA2 => ?_)
  rw [List.replicate_zero, List.append_nil] at hA2
  refine h2 d V p true _ s2 Q l32 hV (dB_F hB (dF_trans hF1 hF2)) (by rw [dO_1]; exact hA2) (fun s3 l33 q' ts' hF3 hA3 e => hQ s3 l33 q' ts' (dF_trans hF1 (dF_trans hF2 hF3)) hA3 ?_)
  rw [e, dO_5]
  simp only [List.append_assoc, List.cons_append, List.nil_append]
theorem d_L_no1 (hx : xt n b a = 38) (h1 : dS_no w B cl n b k (a + 1) a1) : dL_no w B cl n b k a a1 := by
  intro d V p q ts s Q l3 hV hB hA hQ
  refine d_st_and (cl := cl) (d := d + 2) hx hV hB hA (fun s1 l31 hF1 hA1 => ?_)
  exact h1 d _ _ s1 Q l31 (dB_F hB hF1) hA1 (fun s2 hF2 h16 => hQ s2 (dF_trans hF1 hF2) h16)
theorem d_L_no2 (hx : xt n b a = 38) (h1 : dS_ok w B cl n b k (a + 1) a1 u1) (h2 : dL_no w B cl n b k a1 a2) : dL_no w B cl n b k a a2 := by
  intro d V p q ts s Q l3 hV hB hA hQ
  refine d_st_and (cl := cl) (d := d + 2) hx hV hB hA (fun s1 l31 hF1 hA1 => ?_)
  refine h1 d 0 k (V ++ wO p ++ [38]) _ s1 Q l31 rfl (by rw [List.getLast?_concat]; decide) (dB_F hB hF1) (by rw [List.replicate_zero, List.append_nil]; exact hA1) (fun s2 l32 hF2 hA2 => ?_)
  rw [List.replicate_zero, List.append_nil] at hA2
  exact h2 d V p true _ s2 Q l32 hV (dB_F hB (dF_trans hF1 hF2)) (by rw [dO_1]; exact hA2) (fun s3 hF3 h16 => hQ s3 (dF_trans hF1 (dF_trans hF2 hF3)) h16)
theorem d_E_ok (h1 : dT_ok w B cl n b k a a1 u1) (h2 : dM_ok w B cl n b k a1 a2 u2) : dE_ok w B cl n b k a a2 (u1 ++ u2) := by
  intro d V ts s Q l3 hV hB hA hQ
  refine h1 d V false ts s Q l3 hV hB (by rw [dO_2, List.append_nil]; exact hA) (fun s1 l31 q1 ts1 hF1 hA1 e1 => ?_)
  refine h2 d V false q1 ts1 s1 Q l31 hV (dB_F hB hF1) hA1 (fun s2 l32 p' q' ts' hF2 hA2 e => hQ s2 l32 p' q' ts' (dF_trans hF1 hF2) hA2 ?_)
  rw [e, e1, dO_6, List.append_nil, List.append_assoc]
theorem d_E_no1 (h1 : dT_no w B cl n b k a a1) : dE_no w B cl n b k a a1 := by
  intro d V ts s Q l3 hV hB hA hQ
  exact h1 d V false ts s Q l3 hV hB (by rw [dO_2, List.append_nil]; exact hA) hQ
theorem d_E_no2 (h1 : dT_ok w B cl n b k a a1 u1) (h2 : dM_no w B cl n b k a1 a2) : dE_no w B cl n b k a a2 := by
  intro d V ts s Q l3 hV hB hA hQ
  refine h1 d V false ts s Q l3 hV hB (by rw [dO_2, List.append_nil]; exact hA) (fun s1 l31 q1 ts1 hF1 hA1 e1 => ?_)
  exact h2 d V false q1 ts1 s1 Q l31 hV (dB_F hB hF1) hA1 (fun s2 hF2 h16 => hQ s2 (dF_trans hF1 hF2) h16)
theorem d_M_stop : dM_ok w B cl n b k a a [] := by
  intro d V p q ts s Q l3 hV hB hA hQ
  exact hQ s l3 p q ts dF_refl hA (by rw [List.append_nil])
theorem d_M_ok (hx : xt n b a = 124) (h1 : dT_ok w B cl n b k (a + 1) a1 u1) (h2 : dM_ok w B cl n b k a1 a2 u2) : dM_ok w B cl n b k a a2 (u1 ++ ((5, 0, 0) :: u2)) := by
  intro d V p q ts s Q l3 hV hB hA hQ
  refine d_st_or (cl := cl) (d := d + 2) hx hV hB hA (fun s1 l31 hF1 hA1 => ?_)
  refine h1 d V true _ s1 Q l31 hV (dB_F hB hF1) (by rw [dO_3]; exact hA1) (fun s2 l32 q1 ts1 hF2 hA2 e1 => ?_)
  refine h2 d V true q1 ts1 s2 Q l32 hV (dB_F hB (dF_trans hF1 hF2)) hA2 (fun s3 l33 p' q' ts' hF3 hA3 e => hQ s3 l33 p' q' ts' (dF_trans hF1 (dF_trans hF2 hF3)) hA3 ?_)
  rw [e, e1, dO_7]
  simp only [List.append_assoc, List.cons_append, List.nil_append]
theorem d_M_no1 (hx : xt n b a = 124) (h1 : dT_no w B cl n b k (a + 1) a1) : dM_no w B cl n b k a a1 := by
  intro d V p q ts s Q l3 hV hB hA hQ
  refine d_st_or (cl := cl) (d := d + 2) hx hV hB hA (fun s1 l31 hF1 hA1 => ?_)
  exact h1 d V true _ s1 Q l31 hV (dB_F hB hF1) (by rw [dO_3]; exact hA1) (fun s2 hF2 h16 => hQ s2 (dF_trans hF1 hF2) h16)
theorem d_M_no2 (hx : xt n b a = 124) (h1 : dT_ok w B cl n b k (a + 1) a1 u1) (h2 : dM_no w B cl n b k a1 a2) : dM_no w B cl n b k a a2 := by
  intro d V p q ts s Q l3 hV hB hA hQ
  refine d_st_or (cl := cl) (d := d + 2) hx hV hB hA (fun s1 l31 hF1 hA1 => ?_)
  refine h1 d V true _ s1 Q l31 hV (dB_F hB hF1) (by rw [dO_3]; exact hA1) (fun s2 l32 q1 ts1 hF2 hA2 e1 => ?_)
  exact h2 d V true q1 ts1 s2 Q l32 hV (dB_F hB (dF_trans hF1 hF2)) hA2 (fun s3 hF3 h16 => hQ s3 (dF_trans hF1 (dF_trans hF2 hF3)) h16)
end
