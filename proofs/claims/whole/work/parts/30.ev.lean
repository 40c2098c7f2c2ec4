/-! RUNNING THE ABSTRACT MACHINE BY EQUATIONS: a row an instruction, as rewriting rules -/
section EV
variable {P : Nat → Nat → Option gc_E} {nl : Nat → Nat} {d mid pc : Nat} {L : gc_L} {st : List Value} {M : gc_M} {Q : Option Value → gc_M → Prop}
theorem er_n {f : gc_F} {pc' : Nat} {L' : gc_L} {st' : List Value} {M' : gc_M} (hp : P mid pc = some (.inl f)) (hf : f pc L st M = some (pc', L', st', M')) : gc_Ev P nl d mid pc L st M Q = gc_Ev P nl d mid pc' L' st' M' Q := by
  refine propext ⟨fun h => ?_, gc_next hp hf⟩
  obtain ⟨n, r, M2, h1, h2⟩ := h
  cases n with
  | zero => simp [gc_run] at h1
  | succ n =>
    rw [gc_run, hp] at h1
    dsimp only at h1
    rw [hf] at h1
    exact ⟨n, r, M2, h1, h2⟩
theorem er_c {f : gc_G} {m2 : Nat} {as rest : List Value} (hp : P mid pc = some (.inr (.inl f))) (hg : f st M = some (m2, as, rest)) (hl : (gc_arg as).length ≤ nl m2) : gc_Ev P nl (d + 1) mid pc L st M Q = gc_Ev P nl d m2 0 (gc_ini as (nl m2)) [] M (fun r M2 => gc_Ev P nl (d + 1) mid (pc + 3) L (r.toList ++ rest) M2 Q) := by
  refine propext ⟨fun h => ?_, gc_callE hp hg hl⟩
  obtain ⟨n, r, M2, h1, h2⟩ := h
  cases n with
  | zero => simp [gc_run] at h1
  | succ n =>
    rw [gc_run, hp] at h1
    dsimp only at h1
    rw [hg] at h1
    dsimp only at h1
    rw [if_pos hl] at h1
    cases hr : gc_run P nl n d m2 0 (gc_ini as (nl m2)) [] M with
    | none => rw [hr] at h1; simp at h1
    | some z =>
      rw [hr] at h1
      obtain ⟨r2, M3⟩ := z
      exact ⟨n, r2, M3, hr, n, r, M2, h1, h2⟩
theorem er_r {h : gc_R} {r : Option Value} (hp : P mid pc = some (.inr (.inr h))) (hh : h st = some r) : gc_Ev P nl d mid pc L st M Q = Q r M := by
  refine propext ⟨fun h => ?_, gc_retE hp hh⟩
  obtain ⟨n, r, M2, h1, h2⟩ := h
  cases n with
  | zero => simp [gc_run] at h1
  | succ n =>
    rw [gc_run, hp] at h1
    dsimp only at h1
    rw [hh] at h1
    cases h1
    exact h2
theorem er_if {c : Prop} [Decidable c] {f : gc_F} {t e : Nat} {st' : List Value} (hp : P mid pc = some (.inl f)) (hf : f pc L st M = some (if c then t else e, L, st', M)) : gc_Ev P nl d mid pc L st M Q = if c then gc_Ev P nl d mid t L st' M Q else gc_Ev P nl d mid e L st' M Q := by
  rw [er_n hp hf]
  split <;> rfl
end EV
theorem eq_d {c : Prop} [Decidable c] {α : Type} (a b : α) : (if decide c = true then a else b) = if c then a else b := by by_cases h : c <;> simp [h]
theorem eq_nd {c : Prop} [Decidable c] {α : Type} (a b : α) : (if (!decide c) = true then a else b) = if c then b else a := by by_cases h : c <;> simp [h]
/-! what an instruction reads and writes, as total functions -/
def gm_nk : Option Value → Bool
  | some v => gc_c1 v
  | none => true
def gm_gv (M : gc_M) (a k : Nat) : Value := match M.2.2 a with
  | .inl (_, fs) => fs.getD k .null
  | _ => .null
def gm_gok (M : gc_M) (cs : List Nat) (a k : Nat) : Bool := match M.2.2 a with
  | .inl (ci, fs) => decide (a < M.1) && decide (a < 1000000) && cs.contains ci && decide (k < fs.length)
  | _ => false
def gm_ps (M : gc_M) (a k : Nat) (v : Value) : gc_M := match M.2.2 a with
  | .inl (ci, fs) => gc_up M a (.inl (ci, fs.set k v))
  | _ => M
def gm_ai (M : gc_M) (t a : Nat) (i : Int32) : Prop := match M.2.2 a with
  | .inr (t', n, .inl _) => a < M.1 ∧ a < 1000000 ∧ t' = t ∧ vp_in i n
  | _ => False
def gm_av (M : gc_M) (a j : Nat) : Int32 := match M.2.2 a with
  | .inr (_, _, .inl f) => f j
  | _ => 0
def gm_as (M : gc_M) (a j : Nat) (x : Int32) : gc_M := match M.2.2 a with
  | .inr (t, n, .inl f) => gc_up M a (.inr (t, n, .inl (upd f j x)))
  | _ => M
def gm_li (M : gc_M) (a : Nat) (i : Int32) : Prop := match M.2.2 a with
  | .inr (t', n, .inr (.inl _)) => a < M.1 ∧ a < 1000000 ∧ t' = 2 ∧ vp_in i n
  | _ => False
def gm_lv (M : gc_M) (a j : Nat) : Int64 := match M.2.2 a with
  | .inr (_, _, .inr (.inl f)) => f j
  | _ => 0
def gm_ls (M : gc_M) (a j : Nat) (x : Int64) : gc_M := match M.2.2 a with
  | .inr (t, n, .inr (.inl f)) => gc_up M a (.inr (t, n, .inr (.inl (vp_updL f j x))))
  | _ => M
def gm_ri (M : gc_M) (a : Nat) (i : Int32) (r : Nat) : Prop := match M.2.2 a with
  | .inr (t', n, .inr (.inr (.inr (.inr f)))) => a < M.1 ∧ a < 1000000 ∧ t' ∈ [4, 5, 6, 7] ∧ vp_in i n ∧ f i.toNatClampNeg = some r ∧ r < 1000000
  | _ => False
def gm_len (M : gc_M) (a n : Nat) : Prop := match M.2.2 a with
  | .inr (t', n', _) => a < M.1 ∧ a < 1000000 ∧ t' < 8 ∧ n' = n
  | _ => False
def gm_cl (M : gc_M) (a ci : Nat) : Bool := match M.2.2 a with
  | .inl (ci', _) => decide (a < M.1) && decide (a < 1000000) && ci' == ci
  | _ => false
def gm_ci (M : gc_M) (a sp b dp n : Nat) : gc_M := match M.2.2 a, M.2.2 b with
  | .inr (_, _, .inl f), .inr (t, m, .inl g) => gc_up M b (.inr (t, m, .inl (va_cpy f g sp dp n)))
  | _, _ => M
def gm_cio (M : gc_M) (a : Nat) (sp : Int32) (b : Nat) (dp n : Int32) : Prop := match M.2.2 a, M.2.2 b with
  | .inr (t, n0, .inl _), .inr (t', n1, .inl _) => a < M.1 ∧ a < 1000000 ∧ b < M.1 ∧ b < 1000000 ∧ t = 0 ∧ t' = 0 ∧ ¬ sp < 0 ∧ ¬ dp < 0 ∧ ¬ n < 0 ∧ sp.toNatClampNeg + n.toNatClampNeg ≤ n0 ∧ dp.toNatClampNeg + n.toNatClampNeg ≤ n1
  | _, _ => False
def gm_cL (M : gc_M) (a sp b dp n : Nat) : gc_M := match M.2.2 a, M.2.2 b with
  | .inr (_, _, .inr (.inl f)), .inr (t, m, .inr (.inl g)) => gc_up M b (.inr (t, m, .inr (.inl (va_cpy f g sp dp n))))
  | _, _ => M
def gm_cLo (M : gc_M) (a : Nat) (sp : Int32) (b : Nat) (dp n : Int32) : Prop := match M.2.2 a, M.2.2 b with
  | .inr (t, n0, .inr (.inl _)), .inr (t', n1, .inr (.inl _)) => a < M.1 ∧ a < 1000000 ∧ b < M.1 ∧ b < 1000000 ∧ t = 2 ∧ t' = 2 ∧ ¬ sp < 0 ∧ ¬ dp < 0 ∧ ¬ n < 0 ∧ sp.toNatClampNeg + n.toNatClampNeg ≤ n0 ∧ dp.toNatClampNeg + n.toNatClampNeg ≤ n1
  | _, _ => False
section EW
variable {L : gc_L} {st : List Value} {M : gc_M} {pc : Nat}
theorem ef_gf {cs : List Nat} {a k : Nat} (h : gm_gok M cs a k = true) : gc_gf cs k pc L (.ref a :: st) M = some (pc + 3, L, gm_gv M a k :: st, M) := by
  unfold gm_gok at h
  unfold gc_gf gm_gv
  dsimp only
  split at h
  · rename_i ci fs hM
    simp only [Bool.and_eq_true, decide_eq_true_eq, List.contains_iff_mem] at h
    obtain ⟨⟨⟨h1, h2⟩, h3⟩, h4⟩ := h
    simp only [hM]
    rw [if_pos ⟨h1, h2, h3⟩, List.getElem?_eq_getElem h4]
    simp [List.getD_eq_getElem?_getD, List.getElem?_eq_getElem h4]
  · cases h
theorem ef_pf {cs : List Nat} {a k : Nat} {ty : FieldType} {v : Value} (h : gm_gok M cs a k = true) (hv : gc_ok ty v = true) : gc_pf cs k ty pc L (v :: .ref a :: st) M = some (pc + 3, L, st, gm_ps M a k v) := by
  unfold gm_gok at h
  unfold gc_pf gm_ps
  dsimp only
  split at h
  · rename_i ci fs hM
    simp only [Bool.and_eq_true, decide_eq_true_eq, List.contains_iff_mem] at h
    obtain ⟨⟨⟨h1, h2⟩, h3⟩, h4⟩ := h
    simp only [hM]
    rw [if_pos ⟨h1, h2, h3, h4, hv⟩]
  · cases h
theorem ef_lda {t a : Nat} {i : Int32} (h : gm_ai M t a i) : gc_lda t pc L (.int i :: .ref a :: st) M = some (pc + 1, L, .int (gm_av M a i.toNatClampNeg) :: st, M) := by
  unfold gm_ai at h
  unfold gc_lda gm_av
  dsimp only
  split at h
  · rename_i t' n f hM
    simp only [hM]
    rw [if_pos ⟨h.1, h.2.1, h.2.2.1, h.2.2.2⟩]
  · cases h
theorem ef_sta {t a : Nat} {i x : Int32} {nar : Int32 → Int32} (h : gm_ai M t a i) : gc_sta t nar pc L (.int x :: .int i :: .ref a :: st) M = some (pc + 1, L, st, gm_as M a i.toNatClampNeg (nar x)) := by
  unfold gm_ai at h
  unfold gc_sta gm_as
  dsimp only
  split at h
  · rename_i t' n f hM
    simp only [hM]
    rw [if_pos ⟨h.1, h.2.1, h.2.2.1, h.2.2.2⟩]
  · cases h
theorem ef_lld {a : Nat} {i : Int32} (h : gm_li M a i) : gc_lld pc L (.int i :: .ref a :: st) M = some (pc + 1, L, .long (gm_lv M a i.toNatClampNeg) :: st, M) := by
  unfold gm_li at h
  unfold gc_lld gm_lv
  dsimp only
  split at h
  · rename_i t' n f hM
    simp only [hM]
    rw [if_pos ⟨h.1, h.2.1, h.2.2.1, h.2.2.2⟩]
  · cases h
theorem ef_lst {a : Nat} {i : Int32} {x : Int64} (h : gm_li M a i) : gc_lst pc L (.long x :: .int i :: .ref a :: st) M = some (pc + 1, L, st, gm_ls M a i.toNatClampNeg x) := by
  unfold gm_li at h
  unfold gc_lst gm_ls
  dsimp only
  split at h
  · rename_i t' n f hM
    simp only [hM]
    rw [if_pos ⟨h.1, h.2.1, h.2.2.1, h.2.2.2⟩]
  · cases h
theorem ef_ald {a r : Nat} {i : Int32} (h : gm_ri M a i r) : gc_ald [4, 5, 6, 7] pc L (.int i :: .ref a :: st) M = some (pc + 1, L, .ref r :: st, M) := by
  unfold gm_ri at h
  unfold gc_ald
  dsimp only
  split at h
  · rename_i t' n f hM
    simp only [hM]
    obtain ⟨h1, h2, h3, h4, h5, h6⟩ := h
    rw [if_pos ⟨h1, h2, h3, h4⟩]
    simp only [h5]
    rw [if_pos h6]
  · cases h
theorem ef_alen {a n : Nat} (h : gm_len M a n) : gc_alen pc L (.ref a :: st) M = some (pc + 1, L, .int (Int32.ofNat n) :: st, M) := by
  unfold gm_len at h
  unfold gc_alen
  dsimp only
  split at h
  · rename_i t' n f hM
    simp only [hM]
    obtain ⟨h1, h2, h3, h4⟩ := h
    rw [if_pos ⟨h1, h2, h3⟩, h4]
  · cases h
theorem ef_cpI {a b : Nat} {sp dp n : Int32} (h : gm_cio M a sp b dp n) : gc_cpI pc L [.int n, .int dp, .ref b, .int sp, .ref a] M = some (pc + 3, L, [], gm_ci M a sp.toNatClampNeg b dp.toNatClampNeg n.toNatClampNeg) := by
  unfold gm_cio at h
  unfold gc_cpI gm_ci
  dsimp only
  split at h
  · rename_i t n0 f t' n1 g2 hA hB
    simp only [hA, hB]
    obtain ⟨h1, h2, h3, h4, h5, h6, h7, h8, h9, h10, h11⟩ := h
    rw [if_pos ⟨h1, h2, h3, h4, h5, h6, h7, h8, h9, h10, h11, trivial⟩]
  · cases h
theorem ef_cpL {a b : Nat} {sp dp n : Int32} (h : gm_cLo M a sp b dp n) : gc_cpL pc L [.int n, .int dp, .ref b, .int sp, .ref a] M = some (pc + 3, L, [], gm_cL M a sp.toNatClampNeg b dp.toNatClampNeg n.toNatClampNeg) := by
  unfold gm_cLo at h
  unfold gc_cpL gm_cL
  dsimp only
  split at h
  · rename_i t n0 f t' n1 g2 hA hB
    simp only [hA, hB]
    obtain ⟨h1, h2, h3, h4, h5, h6, h7, h8, h9, h10, h11⟩ := h
    rw [if_pos ⟨h1, h2, h3, h4, h5, h6, h7, h8, h9, h10, h11, trivial⟩]
  · cases h
theorem ef_mm {op : Int32 → Int32 → Int32} {x y : Int32} (h : (st.map Value.category).sum ≤ 8) : gc_mm op pc L (.int y :: .int x :: st) M = some (pc + 3, L, .int (op x y) :: st, M) := by
  unfold gc_mm
  dsimp only
  rw [if_pos h]
theorem ef_stI {i n : Nat} {x : Int32} {L' : gc_L} (hi : i < L.length) (h : gc_set1 L i (.int x) = L') : gc_stI i n pc L (.int x :: st) M = some (pc + n, L', st, M) := by
  unfold gc_stI
  dsimp only
  rw [if_pos hi, h]
theorem ef_stA {i n x : Nat} {L' : gc_L} (hi : i < L.length) (h : gc_set1 L i (.ref x) = L') : gc_stA i n pc L (.ref x :: st) M = some (pc + n, L', st, M) := by
  unfold gc_stA
  dsimp only
  rw [if_pos hi, h]
theorem ef_inc {i : Nat} {z : Int} {x : Int32} {L' : gc_L} (hl : L[i]? = some (some (.int x))) (h : gc_set1 L i (.int (x + Int32.ofInt z)) = L') : gc_inc i z pc L st M = some (pc + 3, L', st, M) := by
  unfold gc_inc
  rw [hl]
  dsimp only
  rw [if_pos (List.getElem?_eq_some_iff.mp hl).1, h]
theorem ef_set1 {i : Nat} {v : Value} {x : Option Value} (h1 : L[i]? = some x) (h : gm_nk x = true) : gc_set1 L (i + 1) v = L.set (i + 1) (some v) := by
  have e : gc_kill L (i + 1) = L := by
    show (match L[i]? with
      | some (some v) => if gc_c1 v = true then L else L.set i none
      | _ => L) = L
    rw [h1]
    cases x with
    | none => rfl
    | some w => exact if_pos h
  unfold gc_set1
  rw [e]
theorem ef_cs {m2 n : Nat} {as rest : List Value} (h1 : n ≤ st.length) (h2 : st.drop n = rest) (h3 : (st.take n).reverse = as) (h : (rest.map Value.category).sum ≤ 8) : gc_cs m2 n st M = some (m2, as, rest) := by
  unfold gc_cs
  rw [h2, h3, if_pos ⟨h1, h⟩]
theorem ef_cv {m2 n a ci : Nat} {tab : List (Nat × Nat)} {as rest : List Value} (h1 : st[n]? = some (.ref a)) (hc : gm_cl M a ci = true) (ht : tab.lookup ci = some m2) (h2 : st.drop (n + 1) = rest) (h3 : (st.take (n + 1)).reverse = as) (h : (rest.map Value.category).sum ≤ 8) : gc_cv n tab st M = some (m2, as, rest) := by
  unfold gm_cl at hc
  unfold gc_cv
  rw [h1]
  dsimp only
  split at hc
  · rename_i ci' fs hM
    simp only [Bool.and_eq_true, decide_eq_true_eq, beq_iff_eq] at hc
    obtain ⟨⟨h4, h5⟩, h6⟩ := hc
    subst h6
    simp only [hM, ht]
    rw [h2, h3, if_pos ⟨h4, h5, h⟩]
  · cases hc
theorem ef_ci {m2 n a ci : Nat} {as rest : List Value} (h1 : st[n]? = some (.ref a)) (hc : gm_cl M a ci = true) (h13 : ci < 13) (h2 : st.drop (n + 1) = rest) (h3 : (st.take (n + 1)).reverse = as) (h : (rest.map Value.category).sum ≤ 8) : gc_ci m2 n st M = some (m2, as, rest) := by
  unfold gm_cl at hc
  unfold gc_ci
  rw [h1]
  dsimp only
  split at hc
  · rename_i ci' fs hM
    simp only [Bool.and_eq_true, decide_eq_true_eq, beq_iff_eq] at hc
    obtain ⟨⟨h4, h5⟩, h6⟩ := hc
    subst h6
    simp only [hM]
    rw [h2, h3, if_pos ⟨h4, h5, h13, h⟩]
  · cases hc
theorem ef_tab1 {pc lo : Nat} {o : Int} {os : List Int} {dflt : Int} {x : Int32} (hlo : lo + os.length < 2147483647) : gc_tab pc lo (o :: os) dflt x = if x = Int32.ofNat lo then ((pc : Int) + o).toNat else gc_tab pc (lo + 1) os dflt x := by
  have hx : x = Int32.ofNat lo ↔ x.toInt = (lo : Int) := by
    rw [← Int32.toInt_inj, Int32.toInt_ofNat_of_lt (by omega)]
  unfold gc_tab
  by_cases h : x.toInt = (lo : Int)
  · rw [if_pos (hx.mpr h), h]
    simp
  · rw [if_neg (fun q => h (hx.mp q))]
    have e : ((lo + 1 : Nat) : Int) = (lo : Int) + 1 := by omega
    rw [e]
    by_cases h2 : 0 ≤ x.toInt - (lo : Int) ∧ (x.toInt - (lo : Int)).toNat < (o :: os).length
    · have h3 : 0 ≤ x.toInt - ((lo : Int) + 1) ∧ (x.toInt - ((lo : Int) + 1)).toNat < os.length := by
        simp only [List.length_cons] at h2
        omega
      rw [if_pos h2, if_pos h3]
      obtain ⟨k, hk⟩ : ∃ k, (x.toInt - (lo : Int)).toNat = k + 1 := ⟨(x.toInt - (lo : Int)).toNat - 1, by omega⟩
      have hk2 : (x.toInt - ((lo : Int) + 1)).toNat = k := by omega
      rw [hk, hk2]
      rfl
    · have h3 : ¬ (0 ≤ x.toInt - ((lo : Int) + 1) ∧ (x.toInt - ((lo : Int) + 1)).toNat < os.length) := by
        simp only [List.length_cons] at h2
        omega
      rw [if_neg h2, if_neg h3]
theorem ef_tab0 {pc lo : Nat} {dflt : Int} {x : Int32} : gc_tab pc lo [] dflt x = ((pc : Int) + dflt).toNat := by
  unfold gc_tab
  rw [if_neg]
  rintro ⟨-, h⟩
  exact absurd h (Nat.not_lt_zero _)
end EW
/-! total readings of references, lengths, objects -/
def gm_rr (M : gc_M) (a j : Nat) : Nat := match M.2.2 a with
  | .inr (_, _, .inr (.inr (.inr (.inr f)))) => (f j).getD 0
  | _ => 0
def gm_rok (M : gc_M) (a : Nat) (i : Int32) : Prop := gm_ri M a i (gm_rr M a i.toNatClampNeg)
def gm_ln (M : gc_M) (a : Nat) : Nat := match M.2.2 a with
  | .inr (_, n, _) => n
  | _ => 0
def gm_obj (M : gc_M) (a : Nat) : Bool := match M.2.2 a with
  | .inl (ci, _) => decide (a < M.1) && decide (a < 1000000) && decide (ci < 13)
  | _ => false
theorem ef_obj {L : gc_L} {st : List Value} {M : gc_M} {m2 n a : Nat} {as rest : List Value} (h1 : st[n]? = some (.ref a)) (hc : gm_obj M a = true) (h2 : st.drop (n + 1) = rest) (h3 : (st.take (n + 1)).reverse = as) (h : (rest.map Value.category).sum ≤ 8) : gc_ci m2 n st M = some (m2, as, rest) := by
  unfold gm_obj at hc
  unfold gc_ci
  rw [h1]
  dsimp only
  split at hc
  · rename_i ci' fs hM
    simp only [Bool.and_eq_true, decide_eq_true_eq] at hc
    obtain ⟨⟨h4, h5⟩, h6⟩ := hc
    simp only [hM]
    rw [h2, h3, if_pos ⟨h4, h5, h6, h⟩]
  · cases hc
theorem ef_ct {st : List Value} {M : gc_M} {m2 n a : Nat} {as rest : List Value} (h1 : st[n]? = some (.ref a)) (ha : 1000000 ≤ a) (hb : a < 1000006) (h2 : st.drop (n + 1) = rest) (h3 : (st.take (n + 1)).reverse = as) (h : (rest.map Value.category).sum ≤ 8) : gc_ct m2 n st M = some (m2, as, rest) := by
  unfold gc_ct
  rw [h1]
  dsimp only
  rw [h2, h3, if_pos ⟨ha, hb, h⟩]
theorem ef_lup1 {pc : Nat} {a o : Int} {r : List (Int × Int)} {dflt : Int} {x : Int32} (ha : -2147483648 ≤ a ∧ a < 2147483648) : gc_lup pc ((a, o) :: r) dflt x = if x = Int32.ofInt a then ((pc : Int) + o).toNat else gc_lup pc r dflt x := by
  have hx : x = Int32.ofInt a ↔ x.toInt = a := by
    rw [← Int32.toInt_inj, Int32.toInt_ofInt_of_le (by omega) (by omega)]
  unfold gc_lup
  rw [Op.lookupswitch.offset_cons]
  by_cases h : x.toInt = a
  · rw [if_pos h.symm, if_pos (hx.mpr h)]
  · rw [if_neg (fun q => h q.symm), if_neg (fun q => h (hx.mp q))]
theorem ef_lup0 {pc : Nat} {dflt : Int} {x : Int32} : gc_lup pc [] dflt x = ((pc : Int) + dflt).toNat := rfl
/-! the machine over this code -/
def gc_nl (k : Nat) : Nat := (gc_md k).2.2.1
def gc_X (w : Nat × (Nat → Int32)) (d mid pc : Nat) (L : gc_L) (st : List Value) (M : gc_M) (Q : Option Value → gc_M → Prop) : Prop := gc_Ev (gc_P w.1 w.2) gc_nl d mid pc L st M Q
section EX
variable {w : Nat × (Nat → Int32)} {d mid pc : Nat} {L : gc_L} {st : List Value} {M : gc_M} {Q : Option Value → gc_M → Prop}
theorem ex_n {f : gc_F} {pc' : Nat} {L' : gc_L} {st' : List Value} {M' : gc_M} (hp : gc_P w.1 w.2 mid pc = some (.inl f)) (hf : f pc L st M = some (pc', L', st', M')) : gc_X w d mid pc L st M Q = gc_X w d mid pc' L' st' M' Q := er_n hp hf
theorem ex_if {c : Prop} [Decidable c] {f : gc_F} {t e : Nat} {st' : List Value} (hp : gc_P w.1 w.2 mid pc = some (.inl f)) (hf : f pc L st M = some (if c then t else e, L, st', M)) : gc_X w d mid pc L st M Q = if c then gc_X w d mid t L st' M Q else gc_X w d mid e L st' M Q := er_if hp hf
theorem ex_c {f : gc_G} {m2 : Nat} {as rest : List Value} {L2 : gc_L} (hp : gc_P w.1 w.2 mid pc = some (.inr (.inl f))) (hg : f st M = some (m2, as, rest)) (hl : (gc_arg as).length ≤ gc_nl m2) (hi : gc_ini as (gc_nl m2) = L2) : gc_X w (d + 1) mid pc L st M Q = gc_X w d m2 0 L2 [] M (fun r M2 => gc_X w (d + 1) mid (pc + 3) L (r.toList ++ rest) M2 Q) := by
  subst hi
  exact er_c hp hg hl
theorem ex_r {h : gc_R} {r : Option Value} (hp : gc_P w.1 w.2 mid pc = some (.inr (.inr h))) (hh : h st = some r) : gc_X w d mid pc L st M Q = Q r M := er_r hp hh
end EX
theorem eq_if2 {c : Int32 → Int32 → Bool} {t pc : Nat} {L : gc_L} {x y : Int32} {st : List Value} {M : gc_M} {p : Prop} [Decidable p] (h : c x y = decide p) : gc_if2 c t pc L (.int y :: .int x :: st) M = some (if p then t else pc + 3, L, st, M) := by
  unfold gc_if2
  dsimp only
  rw [h]
  by_cases q : p <;> simp [q]
theorem eq_if2n {c : Int32 → Int32 → Bool} {t pc : Nat} {L : gc_L} {x y : Int32} {st : List Value} {M : gc_M} {p : Prop} [Decidable p] (h : c x y = !decide p) : gc_if2 c t pc L (.int y :: .int x :: st) M = some (if p then pc + 3 else t, L, st, M) := by
  unfold gc_if2
  dsimp only
  rw [h]
  by_cases q : p <;> simp [q]
theorem eq_if1 {c : Int32 → Bool} {t pc : Nat} {L : gc_L} {x : Int32} {st : List Value} {M : gc_M} {p : Prop} [Decidable p] (h : c x = decide p) : gc_if1 c t pc L (.int x :: st) M = some (if p then t else pc + 3, L, st, M) := by
  unfold gc_if1
  dsimp only
  rw [h]
  by_cases q : p <;> simp [q]
theorem eq_if1n {c : Int32 → Bool} {t pc : Nat} {L : gc_L} {x : Int32} {st : List Value} {M : gc_M} {p : Prop} [Decidable p] (h : c x = !decide p) : gc_if1 c t pc L (.int x :: st) M = some (if p then pc + 3 else t, L, st, M) := by
  unfold gc_if1
  dsimp only
  rw [h]
  by_cases q : p <;> simp [q]
theorem ef_ald2 {pc : Nat} {L : gc_L} {st : List Value} {M : gc_M} {a : Nat} {i : Int32} (h : gm_rok M a i) : gc_ald [4, 5, 6, 7] pc L (.int i :: .ref a :: st) M = some (pc + 1, L, .ref (gm_rr M a i.toNatClampNeg) :: st, M) := ef_ald h
theorem ef_alen2 {pc : Nat} {L : gc_L} {st : List Value} {M : gc_M} {a : Nat} (h : gm_len M a (gm_ln M a)) : gc_alen pc L (.ref a :: st) M = some (pc + 1, L, .int (Int32.ofNat (gm_ln M a)) :: st, M) := ef_alen h
theorem ef_idiv {pc : Nat} {L : gc_L} {st : List Value} {M : gc_M} {x y : Int32} (h : ¬ y = 0) : gc_idiv pc L (.int y :: .int x :: st) M = some (pc + 1, L, .int (x / y) :: st, M) := by
  unfold gc_idiv
  dsimp only
  rw [if_neg h]
theorem ef_irem {pc : Nat} {L : gc_L} {st : List Value} {M : gc_M} {x y : Int32} (h : ¬ y = 0) : gc_irem pc L (.int y :: .int x :: st) M = some (pc + 1, L, .int (x - x / y * y) :: st, M) := by
  unfold gc_irem
  dsimp only
  rw [if_neg h]
theorem ef_nul {pc t k : Nat} {L : gc_L} {st : List Value} {M : gc_M} (h : k < 1000000) : gc_ifnull t pc L (.ref k :: st) M = some (pc + 3, L, st, M) := by
  unfold gc_ifnull
  dsimp only
  rw [if_pos h]
theorem ef_nnul {pc t k : Nat} {L : gc_L} {st : List Value} {M : gc_M} (h : k < 1000000) : gc_ifnonnull t pc L (.ref k :: st) M = some (t, L, st, M) := by
  unfold gc_ifnonnull
  dsimp only
  rw [if_pos h]
theorem ef_slda {j n pc : Nat} {f : Nat → Int32} {L : gc_L} {st : List Value} {M : gc_M} {i : Int32} (h : vp_in i n) : gc_slda j n f pc L (.int i :: .ref (1000000 + j) :: st) M = some (pc + 1, L, .int (f i.toNatClampNeg) :: st, M) := by
  unfold gc_slda
  dsimp only
  rw [if_pos ⟨rfl, h⟩]
theorem ef_rn {ty : FieldType} {x : Int32} (h : vp_nar ty x = x) : gc_rn ty [.int x] = some (some (.int x)) := by
  unfold gc_rn
  dsimp only
  rw [if_pos h]
theorem ef_oi {pc : Nat} {L : gc_L} {st : List Value} {M : gc_M} {a : Nat} (h : a < M.1 ∧ a < 1000000 ∧ (st.map Value.category).sum ≤ 8) : gc_oi pc L (.ref a :: st) M = some (pc + 3, L, st, M) := by
  unfold gc_oi
  dsimp only
  rw [if_pos h]
theorem ef_txv {pc : Nat} {L : gc_L} {st : List Value} {M : gc_M} {a : Nat} (h : 1000000 ≤ a ∧ a < 1000006) : gc_txv pc L (.ref a :: st) M = some (pc + 3, L, .ref (a + 10) :: st, M) := by
  unfold gc_txv
  dsimp only
  rw [if_pos h]
theorem ef_txc {pc : Nat} {L : gc_L} {st : List Value} {M : gc_M} {a : Nat} (h : 1000000 ≤ a ∧ a < 1000006) : gc_txc pc L (.ref a :: st) M = some (pc + 3, L, .int 0 :: st, M) := by
  unfold gc_txc
  dsimp only
  rw [if_pos h]
theorem ef_txl {pc : Nat} {L : gc_L} {st : List Value} {M : gc_M} {a : Nat} (h : 1000010 ≤ a ∧ a < 1000016) : gc_txl pc L (.ref a :: st) M = some (pc + 1, L, .int (Int32.ofNat (gc_txb (a - 1000010)).length) :: st, M) := by
  unfold gc_txl
  dsimp only
  rw [if_pos h]
theorem ef_txa {pc : Nat} {L : gc_L} {st : List Value} {M : gc_M} {a : Nat} {i : Int32} (h : 1000010 ≤ a ∧ a < 1000016 ∧ vp_in i (gc_txb (a - 1000010)).length) : gc_txa pc L (.int i :: .ref a :: st) M = some (pc + 1, L, .int ((gc_txb (a - 1000010)).getD i.toNatClampNeg 0) :: st, M) := by
  unfold gc_txa
  exact if_pos h
