/-! the constructors' run: the other's, and the law up to its loop -/
def in_F : List Value := [.int 0, .int 0, .int 0, .null, .null, .null, .null, .null, .null, .null, .null, .null, .null, .int 0, .int 0, .int 0, .int 0, .int 0, .null, .null, .null, .null, .null, .null, .null, .null, .int 0, .int 0, .int 0, .null, .null, .int 0, .int 0, .null, .null, .null, .null, .null, .int 0, .null, .null, .null, .int 0, .int 0, .null, .null, .null, .null, .int 0, .int 0, .int 0, .int 0, .int 0, .int 0, .int 0, .int 0, .null, .null, .null, .null, .null, .null, .null, .null, .null, .null, .null, .null, .null, .null, .null, .null, .null, .int 0, .null, .null, .null, .null, .null]
def in_M3 : gc_M := gc_push in_M2 79 (.inl (12, in_F))
def in_R2 : Option (Option Value × gc_M) := gc_run in_P gc_nl 3000 40 109 0 [some (.ref 137)] [] in_M3
def in_M4 : gc_M := match in_R2 with
  | some (_, M) => M
  | none => in_M0
theorem in_t3 : in_N in_R2 = true := by decide +kernel
theorem in_t4 : in_M4.1 = 192 := by decide +kernel
theorem in_t5 : in_M4.2.1 = 5364 := by decide +kernel
theorem in_r2 (w : Nat × (Nat → Int32)) : gc_run (gc_P w.1 w.2) gc_nl 3000 40 109 0 [some (.ref 137)] [] in_M3 = some (none, in_M4) := by
  refine gc_run_P (in_PP w) 3000 40 109 0 _ [] in_M3 (none, in_M4) ?_
  have h := in_t3
  unfold in_M4
  show in_R2 = _
  cases e : in_R2 with
  | none =>
    rw [e] at h
    cases h
  | some y =>
    rw [e] at h
    obtain ⟨r, M⟩ := y
    cases r with
    | none => rfl
    | some v => cases h
theorem in_o1 : gm_obj in_M1 0 = true := by decide +kernel
theorem in_o2 : gm_obj in_M3 137 = true := by decide +kernel
theorem in_n1 {L : gc_L} : gc_new 11 [.null, .null, .null, .null, .null, .null, .null, .null, .null, .int 0, .null, .int 0, .null, .int 0, .null, .null, .null] 0 L [] in_M0 = some (3, L, [.ref 0], in_M1) := rfl
theorem in_n2 {L : gc_L} : gc_new 12 in_F 8 L [] in_M2 = some (11, L, [.ref 137], in_M3) := by
  have e : gc_new 12 in_F 8 L [] in_M2 = if in_M2.1 < 999000 then some (11, L, [.ref in_M2.1], in_M3) else none := rfl
  rw [e, in_t2]
  rfl
set_option maxRecDepth 20000 in
theorem in_e8 {w : Nat × (Nat → Int32)} {Q : Option Value → gc_M → Prop} {L : gc_L} : gc_X w 41 217 8 L [] in_M2 Q = gc_X w 41 217 11 L [.ref 137] in_M3 Q := ex_n (f := gc_new 12 in_F) (pk_L_law_0 w 8 (Nat.le_of_ble_eq_true rfl)) in_n2
theorem in_law {w : Nat × (Nat → Int32)} {Q : Option Value → gc_M → Prop} (h : gc_X w 41 217 18 [some (.ref 1000040), some (.ref 0), some (.ref 137), some (.int 0)] [] in_M4 Q) : gc_X w 41 217 0 [some (.ref 1000040), none, none, none] [] in_M0 Q := by
  rw [ex_n (f := gc_new 11 [.null, .null, .null, .null, .null, .null, .null, .null, .null, .int 0, .null, .int 0, .null, .int 0, .null, .null, .null]) (pk_L_law w 0) in_n1]
  simp only [E_L_law_3, E_L_law_4, in_o1, List.map_nil, List.map_cons, List.sum_cons, List.sum_nil, gcat_i, gcat_r, gcat_l, Nat.reduceAdd, Nat.reduceLeDiff, Nat.zero_le, Option.toList, List.cons_append, List.nil_append, gnk_i, gnk_r, gnk_n, gi_1, Nat.reduceLT, if_true, if_false]
  refine ⟨2000, none, in_M2, in_r1 w, ?_⟩
  simp only [E_L_law_7, List.map_nil, List.map_cons, List.sum_cons, List.sum_nil, gcat_i, gcat_r, gcat_l, Nat.reduceAdd, Nat.reduceLeDiff, Nat.zero_le, Option.toList, List.cons_append, List.nil_append, gnk_i, gnk_r, gnk_n, gi_1, Nat.reduceLT, if_true, if_false]
  rw [in_e8]
  simp only [E_L_law_11, E_L_law_12, in_o2, List.map_nil, List.map_cons, List.sum_cons, List.sum_nil, gcat_i, gcat_r, gcat_l, Nat.reduceAdd, Nat.reduceLeDiff, Nat.zero_le, Option.toList, List.cons_append, List.nil_append, gnk_i, gnk_r, gnk_n, gi_1, Nat.reduceLT, if_true, if_false]
  refine ⟨3000, none, in_M4, in_r2 w, ?_⟩
  simp only [E_L_law_15, E_L_law_16, E_L_law_17, List.map_nil, List.map_cons, List.sum_cons, List.sum_nil, gcat_i, gcat_r, gcat_l, Nat.reduceAdd, Nat.reduceLeDiff, Nat.zero_le, Option.toList, List.cons_append, List.nil_append, gnk_i, gnk_r, gnk_n, gi_1, Nat.reduceLT, if_true, if_false]
  exact h
