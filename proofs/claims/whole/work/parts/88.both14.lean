/-! both sides: image, undo; the copies -/
section
variable {w : Nat × (Nat → Int32)} {s : gm_S} {d n : Nat} {Q : Option Value → gc_M → Prop}
theorem c_rows_1 (hn : n ≤ 5) (h : s.1 1 3 = nI n) (hq : ∀ s', s'.2 = s.2 → s'.1 5 3 = nI n → (∀ j, j < n → s'.1 6 j = s.1 2 j ∧ s'.1 7 j = s.1 3 j ∧ s'.1 8 j = s.1 4 j) → (∀ b j, ¬ (5 ≤ b ∧ b ≤ 8) → s'.1 b j = s.1 b j) → Q none (gm_m s')) : gc_X w d 36 0 [some (.ref 5), some (.ref 1)] [] (gm_m s) Q := by
  have i2 : (nI n).toNatClampNeg = n := nI_clamp (by omega)
  have i3 : ¬ nI n < 0 := nI_pos (by omega)
  have i0 : (0 : Int32).toNatClampNeg = 0 := rfl
  have r1 : (gm_si s 5 3 (nI n)).1 5 3 = nI n := by rw [gsi_1, if_pos ⟨rfl, rfl⟩]
  have r2 : ∀ f S, (gm_sa S 6 f).1 5 3 = S.1 5 3 := fun f S => rfl
  have r3 : ∀ f S, (gm_sa S 7 f).1 5 3 = S.1 5 3 := fun f S => rfl
  have k1 : ∀ S : gm_S, gm_cio (gm_m S) 2 0 6 0 (nI n) := by
    intro S
    rw [gm_m_cio (n0 := 5) (n1 := 5) (by decide) (by decide) rfl rfl, i0, i2]
    exact ⟨by decide, by decide, i3, by omega, by omega⟩
  have c1 : ∀ (S : gm_S) (a b c : Nat), gm_ci (gm_m S) 2 a 6 b c = gm_m (gm_sa S 6 (va_cpy (S.1 2) (S.1 6) a b c)) := fun S a b c => gm_m_ci (n0 := 5) (n1 := 5) (by decide) (by decide) rfl rfl
  have k2 : ∀ S : gm_S, gm_cio (gm_m S) 3 0 7 0 (nI n) := by
    intro S
    rw [gm_m_cio (n0 := 5) (n1 := 5) (by decide) (by decide) rfl rfl, i0, i2]
    exact ⟨by decide, by decide, i3, by omega, by omega⟩
  have c2 : ∀ (S : gm_S) (a b c : Nat), gm_ci (gm_m S) 3 a 7 b c = gm_m (gm_sa S 7 (va_cpy (S.1 3) (S.1 7) a b c)) := fun S a b c => gm_m_ci (n0 := 5) (n1 := 5) (by decide) (by decide) rfl rfl
  have k3 : ∀ S : gm_S, gm_cio (gm_m S) 4 0 8 0 (nI n) := by
    intro S
    rw [gm_m_cio (n0 := 5) (n1 := 5) (by decide) (by decide) rfl rfl, i0, i2]
    exact ⟨by decide, by decide, i3, by omega, by omega⟩
  have c3 : ∀ (S : gm_S) (a b c : Nat), gm_ci (gm_m S) 4 a 8 b c = gm_m (gm_sa S 8 (va_cpy (S.1 4) (S.1 8) a b c)) := fun S a b c => gm_m_ci (n0 := 5) (n1 := 5) (by decide) (by decide) rfl rfl
  simp only [E_X5_copyFrom_0, E_X5_copyFrom_1, E_X5_copyFrom_2, E_X5_copyFrom_5, E_X5_copyFrom_8, E_X5_copyFrom_9, E_X5_copyFrom_12, E_X5_copyFrom_13, E_X5_copyFrom_14, E_X5_copyFrom_17, E_X5_copyFrom_18, E_X5_copyFrom_19, E_X5_copyFrom_22, E_X5_copyFrom_25, E_X5_copyFrom_26, E_X5_copyFrom_29, E_X5_copyFrom_30, E_X5_copyFrom_31, E_X5_copyFrom_34, E_X5_copyFrom_35, E_X5_copyFrom_36, E_X5_copyFrom_39, E_X5_copyFrom_42, E_X5_copyFrom_43, E_X5_copyFrom_46, E_X5_copyFrom_47, E_X5_copyFrom_48, E_X5_copyFrom_51, E_X5_copyFrom_52, E_X5_copyFrom_53, E_X5_copyFrom_56, E_X5_copyFrom_59, rk_1, rk_5, rg_1_0, rg_1_1, rg_1_2, rg_1_3, rg_5_0, rg_5_1, rg_5_2, rg_5_3, rp_5_3, h, r1, r2, r3, k1, k2, k3, c1, c2, c3, i0, i2, List.map_nil, List.map_cons, List.sum_cons, List.sum_nil, gcat_i, gcat_r, gcat_l, Nat.reduceAdd, Nat.reduceLeDiff, Nat.zero_le, Option.toList, List.cons_append, List.nil_append, gnk_i, gnk_r, gnk_n, gi_1, Nat.reduceLT, if_true, if_false]
  refine hq _ rfl ?_ (fun j hj => ⟨?_, ?_, ?_⟩) (fun b j q => ?_)
  · simp [gm_sa, gsi_1]
  · simp [gm_sa, va_cpy, gsi_1, hj]
  · simp [gm_sa, va_cpy, gsi_1, hj]
  · simp [gm_sa, va_cpy, gsi_1, hj]
  · have q1 : ¬ b = 5 := fun e => q (by omega)
    have q2 : ¬ b = 6 := fun e => q (by omega)
    have q3 : ¬ b = 7 := fun e => q (by omega)
    have q4 : ¬ b = 8 := fun e => q (by omega)
    simp [gm_sa, gsi_1, q1, q2, q3, q4]
theorem c_rows_9 (hn : n ≤ 10) (h : s.1 9 3 = nI n) (hq : ∀ s', s'.2 = s.2 → s'.1 13 3 = nI n → (∀ j, j < n → s'.1 14 j = s.1 10 j ∧ s'.1 15 j = s.1 11 j ∧ s'.1 16 j = s.1 12 j) → (∀ b j, ¬ (13 ≤ b ∧ b ≤ 16) → s'.1 b j = s.1 b j) → Q none (gm_m s')) : gc_X w d 36 0 [some (.ref 13), some (.ref 9)] [] (gm_m s) Q := by
  have i2 : (nI n).toNatClampNeg = n := nI_clamp (by omega)
  have i3 : ¬ nI n < 0 := nI_pos (by omega)
  have i0 : (0 : Int32).toNatClampNeg = 0 := rfl
  have r1 : (gm_si s 13 3 (nI n)).1 13 3 = nI n := by rw [gsi_1, if_pos ⟨rfl, rfl⟩]
  have r2 : ∀ f S, (gm_sa S 14 f).1 13 3 = S.1 13 3 := fun f S => rfl
  have r3 : ∀ f S, (gm_sa S 15 f).1 13 3 = S.1 13 3 := fun f S => rfl
  have k1 : ∀ S : gm_S, gm_cio (gm_m S) 10 0 14 0 (nI n) := by
    intro S
    rw [gm_m_cio (n0 := 10) (n1 := 10) (by decide) (by decide) rfl rfl, i0, i2]
    exact ⟨by decide, by decide, i3, by omega, by omega⟩
  have c1 : ∀ (S : gm_S) (a b c : Nat), gm_ci (gm_m S) 10 a 14 b c = gm_m (gm_sa S 14 (va_cpy (S.1 10) (S.1 14) a b c)) := fun S a b c => gm_m_ci (n0 := 10) (n1 := 10) (by decide) (by decide) rfl rfl
  have k2 : ∀ S : gm_S, gm_cio (gm_m S) 11 0 15 0 (nI n) := by
    intro S
    rw [gm_m_cio (n0 := 10) (n1 := 10) (by decide) (by decide) rfl rfl, i0, i2]
    exact ⟨by decide, by decide, i3, by omega, by omega⟩
  have c2 : ∀ (S : gm_S) (a b c : Nat), gm_ci (gm_m S) 11 a 15 b c = gm_m (gm_sa S 15 (va_cpy (S.1 11) (S.1 15) a b c)) := fun S a b c => gm_m_ci (n0 := 10) (n1 := 10) (by decide) (by decide) rfl rfl
  have k3 : ∀ S : gm_S, gm_cio (gm_m S) 12 0 16 0 (nI n) := by
    intro S
    rw [gm_m_cio (n0 := 10) (n1 := 10) (by decide) (by decide) rfl rfl, i0, i2]
    exact ⟨by decide, by decide, i3, by omega, by omega⟩
  have c3 : ∀ (S : gm_S) (a b c : Nat), gm_ci (gm_m S) 12 a 16 b c = gm_m (gm_sa S 16 (va_cpy (S.1 12) (S.1 16) a b c)) := fun S a b c => gm_m_ci (n0 := 10) (n1 := 10) (by decide) (by decide) rfl rfl
  simp only [E_X5_copyFrom_0, E_X5_copyFrom_1, E_X5_copyFrom_2, E_X5_copyFrom_5, E_X5_copyFrom_8, E_X5_copyFrom_9, E_X5_copyFrom_12, E_X5_copyFrom_13, E_X5_copyFrom_14, E_X5_copyFrom_17, E_X5_copyFrom_18, E_X5_copyFrom_19, E_X5_copyFrom_22, E_X5_copyFrom_25, E_X5_copyFrom_26, E_X5_copyFrom_29, E_X5_copyFrom_30, E_X5_copyFrom_31, E_X5_copyFrom_34, E_X5_copyFrom_35, E_X5_copyFrom_36, E_X5_copyFrom_39, E_X5_copyFrom_42, E_X5_copyFrom_43, E_X5_copyFrom_46, E_X5_copyFrom_47, E_X5_copyFrom_48, E_X5_copyFrom_51, E_X5_copyFrom_52, E_X5_copyFrom_53, E_X5_copyFrom_56, E_X5_copyFrom_59, rk_9, rk_13, rg_9_0, rg_9_1, rg_9_2, rg_9_3, rg_13_0, rg_13_1, rg_13_2, rg_13_3, rp_13_3, h, r1, r2, r3, k1, k2, k3, c1, c2, c3, i0, i2, List.map_nil, List.map_cons, List.sum_cons, List.sum_nil, gcat_i, gcat_r, gcat_l, Nat.reduceAdd, Nat.reduceLeDiff, Nat.zero_le, Option.toList, List.cons_append, List.nil_append, gnk_i, gnk_r, gnk_n, gi_1, Nat.reduceLT, if_true, if_false]
  refine hq _ rfl ?_ (fun j hj => ⟨?_, ?_, ?_⟩) (fun b j q => ?_)
  · simp [gm_sa, gsi_1]
  · simp [gm_sa, va_cpy, gsi_1, hj]
  · simp [gm_sa, va_cpy, gsi_1, hj]
  · simp [gm_sa, va_cpy, gsi_1, hj]
  · have q1 : ¬ b = 13 := fun e => q (by omega)
    have q2 : ¬ b = 14 := fun e => q (by omega)
    have q3 : ¬ b = 15 := fun e => q (by omega)
    have q4 : ¬ b = 16 := fun e => q (by omega)
    simp [gm_sa, gsi_1, q1, q2, q3, q4]
theorem c_rows_17 (hn : n ≤ 8) (h : s.1 17 3 = nI n) (hq : ∀ s', s'.2 = s.2 → s'.1 21 3 = nI n → (∀ j, j < n → s'.1 22 j = s.1 18 j ∧ s'.1 23 j = s.1 19 j ∧ s'.1 24 j = s.1 20 j) → (∀ b j, ¬ (21 ≤ b ∧ b ≤ 24) → s'.1 b j = s.1 b j) → Q none (gm_m s')) : gc_X w d 36 0 [some (.ref 21), some (.ref 17)] [] (gm_m s) Q := by
  have i2 : (nI n).toNatClampNeg = n := nI_clamp (by omega)
  have i3 : ¬ nI n < 0 := nI_pos (by omega)
  have i0 : (0 : Int32).toNatClampNeg = 0 := rfl
  have r1 : (gm_si s 21 3 (nI n)).1 21 3 = nI n := by rw [gsi_1, if_pos ⟨rfl, rfl⟩]
  have r2 : ∀ f S, (gm_sa S 22 f).1 21 3 = S.1 21 3 := fun f S => rfl
  have r3 : ∀ f S, (gm_sa S 23 f).1 21 3 = S.1 21 3 := fun f S => rfl
  have k1 : ∀ S : gm_S, gm_cio (gm_m S) 18 0 22 0 (nI n) := by
    intro S
    rw [gm_m_cio (n0 := 8) (n1 := 8) (by decide) (by decide) rfl rfl, i0, i2]
    exact ⟨by decide, by decide, i3, by omega, by omega⟩
  have c1 : ∀ (S : gm_S) (a b c : Nat), gm_ci (gm_m S) 18 a 22 b c = gm_m (gm_sa S 22 (va_cpy (S.1 18) (S.1 22) a b c)) := fun S a b c => gm_m_ci (n0 := 8) (n1 := 8) (by decide) (by decide) rfl rfl
  have k2 : ∀ S : gm_S, gm_cio (gm_m S) 19 0 23 0 (nI n) := by
    intro S
    rw [gm_m_cio (n0 := 8) (n1 := 8) (by decide) (by decide) rfl rfl, i0, i2]
    exact ⟨by decide, by decide, i3, by omega, by omega⟩
  have c2 : ∀ (S : gm_S) (a b c : Nat), gm_ci (gm_m S) 19 a 23 b c = gm_m (gm_sa S 23 (va_cpy (S.1 19) (S.1 23) a b c)) := fun S a b c => gm_m_ci (n0 := 8) (n1 := 8) (by decide) (by decide) rfl rfl
  have k3 : ∀ S : gm_S, gm_cio (gm_m S) 20 0 24 0 (nI n) := by
    intro S
    rw [gm_m_cio (n0 := 8) (n1 := 8) (by decide) (by decide) rfl rfl, i0, i2]
    exact ⟨by decide, by decide, i3, by omega, by omega⟩
  have c3 : ∀ (S : gm_S) (a b c : Nat), gm_ci (gm_m S) 20 a 24 b c = gm_m (gm_sa S 24 (va_cpy (S.1 20) (S.1 24) a b c)) := fun S a b c => gm_m_ci (n0 := 8) (n1 := 8) (by decide) (by decide) rfl rfl
  simp only [E_X5_copyFrom_0, E_X5_copyFrom_1, E_X5_copyFrom_2, E_X5_copyFrom_5, E_X5_copyFrom_8, E_X5_copyFrom_9, E_X5_copyFrom_12, E_X5_copyFrom_13, E_X5_copyFrom_14, E_X5_copyFrom_17, E_X5_copyFrom_18, E_X5_copyFrom_19, E_X5_copyFrom_22, E_X5_copyFrom_25, E_X5_copyFrom_26, E_X5_copyFrom_29, E_X5_copyFrom_30, E_X5_copyFrom_31, E_X5_copyFrom_34, E_X5_copyFrom_35, E_X5_copyFrom_36, E_X5_copyFrom_39, E_X5_copyFrom_42, E_X5_copyFrom_43, E_X5_copyFrom_46, E_X5_copyFrom_47, E_X5_copyFrom_48, E_X5_copyFrom_51, E_X5_copyFrom_52, E_X5_copyFrom_53, E_X5_copyFrom_56, E_X5_copyFrom_59, rk_17, rk_21, rg_17_0, rg_17_1, rg_17_2, rg_17_3, rg_21_0, rg_21_1, rg_21_2, rg_21_3, rp_21_3, h, r1, r2, r3, k1, k2, k3, c1, c2, c3, i0, i2, List.map_nil, List.map_cons, List.sum_cons, List.sum_nil, gcat_i, gcat_r, gcat_l, Nat.reduceAdd, Nat.reduceLeDiff, Nat.zero_le, Option.toList, List.cons_append, List.nil_append, gnk_i, gnk_r, gnk_n, gi_1, Nat.reduceLT, if_true, if_false]
  refine hq _ rfl ?_ (fun j hj => ⟨?_, ?_, ?_⟩) (fun b j q => ?_)
  · simp [gm_sa, gsi_1]
  · simp [gm_sa, va_cpy, gsi_1, hj]
  · simp [gm_sa, va_cpy, gsi_1, hj]
  · simp [gm_sa, va_cpy, gsi_1, hj]
  · have q1 : ¬ b = 21 := fun e => q (by omega)
    have q2 : ¬ b = 22 := fun e => q (by omega)
    have q3 : ¬ b = 23 := fun e => q (by omega)
    have q4 : ¬ b = 24 := fun e => q (by omega)
    simp [gm_sa, gsi_1, q1, q2, q3, q4]
theorem c_rows_5 (hn : n ≤ 5) (h : s.1 5 3 = nI n) (hq : ∀ s', s'.2 = s.2 → s'.1 1 3 = nI n → (∀ j, j < n → s'.1 2 j = s.1 6 j ∧ s'.1 3 j = s.1 7 j ∧ s'.1 4 j = s.1 8 j) → (∀ b j, ¬ (1 ≤ b ∧ b ≤ 4) → s'.1 b j = s.1 b j) → Q none (gm_m s')) : gc_X w d 36 0 [some (.ref 1), some (.ref 5)] [] (gm_m s) Q := by
  have i2 : (nI n).toNatClampNeg = n := nI_clamp (by omega)
  have i3 : ¬ nI n < 0 := nI_pos (by omega)
  have i0 : (0 : Int32).toNatClampNeg = 0 := rfl
  have r1 : (gm_si s 1 3 (nI n)).1 1 3 = nI n := by rw [gsi_1, if_pos ⟨rfl, rfl⟩]
  have r2 : ∀ f S, (gm_sa S 2 f).1 1 3 = S.1 1 3 := fun f S => rfl
  have r3 : ∀ f S, (gm_sa S 3 f).1 1 3 = S.1 1 3 := fun f S => rfl
  have k1 : ∀ S : gm_S, gm_cio (gm_m S) 6 0 2 0 (nI n) := by
    intro S
    rw [gm_m_cio (n0 := 5) (n1 := 5) (by decide) (by decide) rfl rfl, i0, i2]
    exact ⟨by decide, by decide, i3, by omega, by omega⟩
  have c1 : ∀ (S : gm_S) (a b c : Nat), gm_ci (gm_m S) 6 a 2 b c = gm_m (gm_sa S 2 (va_cpy (S.1 6) (S.1 2) a b c)) := fun S a b c => gm_m_ci (n0 := 5) (n1 := 5) (by decide) (by decide) rfl rfl
  have k2 : ∀ S : gm_S, gm_cio (gm_m S) 7 0 3 0 (nI n) := by
    intro S
    rw [gm_m_cio (n0 := 5) (n1 := 5) (by decide) (by decide) rfl rfl, i0, i2]
    exact ⟨by decide, by decide, i3, by omega, by omega⟩
  have c2 : ∀ (S : gm_S) (a b c : Nat), gm_ci (gm_m S) 7 a 3 b c = gm_m (gm_sa S 3 (va_cpy (S.1 7) (S.1 3) a b c)) := fun S a b c => gm_m_ci (n0 := 5) (n1 := 5) (by decide) (by decide) rfl rfl
  have k3 : ∀ S : gm_S, gm_cio (gm_m S) 8 0 4 0 (nI n) := by
    intro S
    rw [gm_m_cio (n0 := 5) (n1 := 5) (by decide) (by decide) rfl rfl, i0, i2]
    exact ⟨by decide, by decide, i3, by omega, by omega⟩
  have c3 : ∀ (S : gm_S) (a b c : Nat), gm_ci (gm_m S) 8 a 4 b c = gm_m (gm_sa S 4 (va_cpy (S.1 8) (S.1 4) a b c)) := fun S a b c => gm_m_ci (n0 := 5) (n1 := 5) (by decide) (by decide) rfl rfl
  simp only [E_X5_copyFrom_0, E_X5_copyFrom_1, E_X5_copyFrom_2, E_X5_copyFrom_5, E_X5_copyFrom_8, E_X5_copyFrom_9, E_X5_copyFrom_12, E_X5_copyFrom_13, E_X5_copyFrom_14, E_X5_copyFrom_17, E_X5_copyFrom_18, E_X5_copyFrom_19, E_X5_copyFrom_22, E_X5_copyFrom_25, E_X5_copyFrom_26, E_X5_copyFrom_29, E_X5_copyFrom_30, E_X5_copyFrom_31, E_X5_copyFrom_34, E_X5_copyFrom_35, E_X5_copyFrom_36, E_X5_copyFrom_39, E_X5_copyFrom_42, E_X5_copyFrom_43, E_X5_copyFrom_46, E_X5_copyFrom_47, E_X5_copyFrom_48, E_X5_copyFrom_51, E_X5_copyFrom_52, E_X5_copyFrom_53, E_X5_copyFrom_56, E_X5_copyFrom_59, rk_5, rk_1, rg_5_0, rg_5_1, rg_5_2, rg_5_3, rg_1_0, rg_1_1, rg_1_2, rg_1_3, rp_1_3, h, r1, r2, r3, k1, k2, k3, c1, c2, c3, i0, i2, List.map_nil, List.map_cons, List.sum_cons, List.sum_nil, gcat_i, gcat_r, gcat_l, Nat.reduceAdd, Nat.reduceLeDiff, Nat.zero_le, Option.toList, List.cons_append, List.nil_append, gnk_i, gnk_r, gnk_n, gi_1, Nat.reduceLT, if_true, if_false]
  refine hq _ rfl ?_ (fun j hj => ⟨?_, ?_, ?_⟩) (fun b j q => ?_)
  · simp [gm_sa, gsi_1]
  · simp [gm_sa, va_cpy, gsi_1, hj]
  · simp [gm_sa, va_cpy, gsi_1, hj]
  · simp [gm_sa, va_cpy, gsi_1, hj]
  · have q1 : ¬ b = 1 := fun e => q (by omega)
    have q2 : ¬ b = 2 := fun e => q (by omega)
    have q3 : ¬ b = 3 := fun e => q (by omega)
    have q4 : ¬ b = 4 := fun e => q (by omega)
    simp [gm_sa, gsi_1, q1, q2, q3, q4]
theorem c_rows_13 (hn : n ≤ 10) (h : s.1 13 3 = nI n) (hq : ∀ s', s'.2 = s.2 → s'.1 9 3 = nI n → (∀ j, j < n → s'.1 10 j = s.1 14 j ∧ s'.1 11 j = s.1 15 j ∧ s'.1 12 j = s.1 16 j) → (∀ b j, ¬ (9 ≤ b ∧ b ≤ 12) → s'.1 b j = s.1 b j) → Q none (gm_m s')) : gc_X w d 36 0 [some (.ref 9), some (.ref 13)] [] (gm_m s) Q := by
  have i2 : (nI n).toNatClampNeg = n := nI_clamp (by omega)
  have i3 : ¬ nI n < 0 := nI_pos (by omega)
  have i0 : (0 : Int32).toNatClampNeg = 0 := rfl
  have r1 : (gm_si s 9 3 (nI n)).1 9 3 = nI n := by rw [gsi_1, if_pos ⟨rfl, rfl⟩]
  have r2 : ∀ f S, (gm_sa S 10 f).1 9 3 = S.1 9 3 := fun f S => rfl
  have r3 : ∀ f S, (gm_sa S 11 f).1 9 3 = S.1 9 3 := fun f S => rfl
  have k1 : ∀ S : gm_S, gm_cio (gm_m S) 14 0 10 0 (nI n) := by
    intro S
    rw [gm_m_cio (n0 := 10) (n1 := 10) (by decide) (by decide) rfl rfl, i0, i2]
    exact ⟨by decide, by decide, i3, by omega, by omega⟩
  have c1 : ∀ (S : gm_S) (a b c : Nat), gm_ci (gm_m S) 14 a 10 b c = gm_m (gm_sa S 10 (va_cpy (S.1 14) (S.1 10) a b c)) := fun S a b c => gm_m_ci (n0 := 10) (n1 := 10) (by decide) (by decide) rfl rfl
  have k2 : ∀ S : gm_S, gm_cio (gm_m S) 15 0 11 0 (nI n) := by
    intro S
    rw [gm_m_cio (n0 := 10) (n1 := 10) (by decide) (by decide) rfl rfl, i0, i2]
    exact ⟨by decide, by decide, i3, by omega, by omega⟩
  have c2 : ∀ (S : gm_S) (a b c : Nat), gm_ci (gm_m S) 15 a 11 b c = gm_m (gm_sa S 11 (va_cpy (S.1 15) (S.1 11) a b c)) := fun S a b c => gm_m_ci (n0 := 10) (n1 := 10) (by decide) (by decide) rfl rfl
  have k3 : ∀ S : gm_S, gm_cio (gm_m S) 16 0 12 0 (nI n) := by
    intro S
    rw [gm_m_cio (n0 := 10) (n1 := 10) (by decide) (by decide) rfl rfl, i0, i2]
    exact ⟨by decide, by decide, i3, by omega, by omega⟩
  have c3 : ∀ (S : gm_S) (a b c : Nat), gm_ci (gm_m S) 16 a 12 b c = gm_m (gm_sa S 12 (va_cpy (S.1 16) (S.1 12) a b c)) := fun S a b c => gm_m_ci (n0 := 10) (n1 := 10) (by decide) (by decide) rfl rfl
  simp only [E_X5_copyFrom_0, E_X5_copyFrom_1, E_X5_copyFrom_2, E_X5_copyFrom_5, E_X5_copyFrom_8, E_X5_copyFrom_9, E_X5_copyFrom_12, E_X5_copyFrom_13, E_X5_copyFrom_14, E_X5_copyFrom_17, E_X5_copyFrom_18, E_X5_copyFrom_19, E_X5_copyFrom_22, E_X5_copyFrom_25, E_X5_copyFrom_26, E_X5_copyFrom_29, E_X5_copyFrom_30, E_X5_copyFrom_31, E_X5_copyFrom_34, E_X5_copyFrom_35, E_X5_copyFrom_36, E_X5_copyFrom_39, E_X5_copyFrom_42, E_X5_copyFrom_43, E_X5_copyFrom_46, E_X5_copyFrom_47, E_X5_copyFrom_48, E_X5_copyFrom_51, E_X5_copyFrom_52, E_X5_copyFrom_53, E_X5_copyFrom_56, E_X5_copyFrom_59, rk_13, rk_9, rg_13_0, rg_13_1, rg_13_2, rg_13_3, rg_9_0, rg_9_1, rg_9_2, rg_9_3, rp_9_3, h, r1, r2, r3, k1, k2, k3, c1, c2, c3, i0, i2, List.map_nil, List.map_cons, List.sum_cons, List.sum_nil, gcat_i, gcat_r, gcat_l, Nat.reduceAdd, Nat.reduceLeDiff, Nat.zero_le, Option.toList, List.cons_append, List.nil_append, gnk_i, gnk_r, gnk_n, gi_1, Nat.reduceLT, if_true, if_false]
  refine hq _ rfl ?_ (fun j hj => ⟨?_, ?_, ?_⟩) (fun b j q => ?_)
  · simp [gm_sa, gsi_1]
  · simp [gm_sa, va_cpy, gsi_1, hj]
  · simp [gm_sa, va_cpy, gsi_1, hj]
  · simp [gm_sa, va_cpy, gsi_1, hj]
  · have q1 : ¬ b = 9 := fun e => q (by omega)
    have q2 : ¬ b = 10 := fun e => q (by omega)
    have q3 : ¬ b = 11 := fun e => q (by omega)
    have q4 : ¬ b = 12 := fun e => q (by omega)
    simp [gm_sa, gsi_1, q1, q2, q3, q4]
theorem c_rows_21 (hn : n ≤ 8) (h : s.1 21 3 = nI n) (hq : ∀ s', s'.2 = s.2 → s'.1 17 3 = nI n → (∀ j, j < n → s'.1 18 j = s.1 22 j ∧ s'.1 19 j = s.1 23 j ∧ s'.1 20 j = s.1 24 j) → (∀ b j, ¬ (17 ≤ b ∧ b ≤ 20) → s'.1 b j = s.1 b j) → Q none (gm_m s')) : gc_X w d 36 0 [some (.ref 17), some (.ref 21)] [] (gm_m s) Q := by
  have i2 : (nI n).toNatClampNeg = n := nI_clamp (by omega)
  have i3 : ¬ nI n < 0 := nI_pos (by omega)
  have i0 : (0 : Int32).toNatClampNeg = 0 := rfl
  have r1 : (gm_si s 17 3 (nI n)).1 17 3 = nI n := by rw [gsi_1, if_pos ⟨rfl, rfl⟩]
  have r2 : ∀ f S, (gm_sa S 18 f).1 17 3 = S.1 17 3 := fun f S => rfl
  have r3 : ∀ f S, (gm_sa S 19 f).1 17 3 = S.1 17 3 := fun f S => rfl
  have k1 : ∀ S : gm_S, gm_cio (gm_m S) 22 0 18 0 (nI n) := by
    intro S
    rw [gm_m_cio (n0 := 8) (n1 := 8) (by decide) (by decide) rfl rfl, i0, i2]
    exact ⟨by decide, by decide, i3, by omega, by omega⟩
  have c1 : ∀ (S : gm_S) (a b c : Nat), gm_ci (gm_m S) 22 a 18 b c = gm_m (gm_sa S 18 (va_cpy (S.1 22) (S.1 18) a b c)) := fun S a b c => gm_m_ci (n0 := 8) (n1 := 8) (by decide) (by decide) rfl rfl
  have k2 : ∀ S : gm_S, gm_cio (gm_m S) 23 0 19 0 (nI n) := by
    intro S
    rw [gm_m_cio (n0 := 8) (n1 := 8) (by decide) (by decide) rfl rfl, i0, i2]
    exact ⟨by decide, by decide, i3, by omega, by omega⟩
  have c2 : ∀ (S : gm_S) (a b c : Nat), gm_ci (gm_m S) 23 a 19 b c = gm_m (gm_sa S 19 (va_cpy (S.1 23) (S.1 19) a b c)) := fun S a b c => gm_m_ci (n0 := 8) (n1 := 8) (by decide) (by decide) rfl rfl
  have k3 : ∀ S : gm_S, gm_cio (gm_m S) 24 0 20 0 (nI n) := by
    intro S
    rw [gm_m_cio (n0 := 8) (n1 := 8) (by decide) (by decide) rfl rfl, i0, i2]
    exact ⟨by decide, by decide, i3, by omega, by omega⟩
  have c3 : ∀ (S : gm_S) (a b c : Nat), gm_ci (gm_m S) 24 a 20 b c = gm_m (gm_sa S 20 (va_cpy (S.1 24) (S.1 20) a b c)) := fun S a b c => gm_m_ci (n0 := 8) (n1 := 8) (by decide) (by decide) rfl rfl
  simp only [E_X5_copyFrom_0, E_X5_copyFrom_1, E_X5_copyFrom_2, E_X5_copyFrom_5, E_X5_copyFrom_8, E_X5_copyFrom_9, E_X5_copyFrom_12, E_X5_copyFrom_13, E_X5_copyFrom_14, E_X5_copyFrom_17, E_X5_copyFrom_18, E_X5_copyFrom_19, E_X5_copyFrom_22, E_X5_copyFrom_25, E_X5_copyFrom_26, E_X5_copyFrom_29, E_X5_copyFrom_30, E_X5_copyFrom_31, E_X5_copyFrom_34, E_X5_copyFrom_35, E_X5_copyFrom_36, E_X5_copyFrom_39, E_X5_copyFrom_42, E_X5_copyFrom_43, E_X5_copyFrom_46, E_X5_copyFrom_47, E_X5_copyFrom_48, E_X5_copyFrom_51, E_X5_copyFrom_52, E_X5_copyFrom_53, E_X5_copyFrom_56, E_X5_copyFrom_59, rk_21, rk_17, rg_21_0, rg_21_1, rg_21_2, rg_21_3, rg_17_0, rg_17_1, rg_17_2, rg_17_3, rp_17_3, h, r1, r2, r3, k1, k2, k3, c1, c2, c3, i0, i2, List.map_nil, List.map_cons, List.sum_cons, List.sum_nil, gcat_i, gcat_r, gcat_l, Nat.reduceAdd, Nat.reduceLeDiff, Nat.zero_le, Option.toList, List.cons_append, List.nil_append, gnk_i, gnk_r, gnk_n, gi_1, Nat.reduceLT, if_true, if_false]
  refine hq _ rfl ?_ (fun j hj => ⟨?_, ?_, ?_⟩) (fun b j q => ?_)
  · simp [gm_sa, gsi_1]
  · simp [gm_sa, va_cpy, gsi_1, hj]
  · simp [gm_sa, va_cpy, gsi_1, hj]
  · simp [gm_sa, va_cpy, gsi_1, hj]
  · have q1 : ¬ b = 17 := fun e => q (by omega)
    have q2 : ¬ b = 18 := fun e => q (by omega)
    have q3 : ¬ b = 19 := fun e => q (by omega)
    have q4 : ¬ b = 20 := fun e => q (by omega)
    simp [gm_sa, gsi_1, q1, q2, q3, q4]
def mImg (b : Nat) : Nat := if b ≤ 179 then b - 32 else b - 17
def mUnd (b : Nat) : Nat := if b ≤ 147 then b + 32 else b + 17
variable {s0 : gm_S}
theorem gCw_i0 {src : Nat → Nat} {L : List Nat} {i : Nat} (h : gCw s0 s src (fun b j => b ∈ L ∧ j < i)) : gCw s0 s src (fun b j => (b ∈ L ∧ j < i) ∨ (b ∈ ([] : List Nat) ∧ j = i)) := gCw_cg h (fun b j => ⟨fun q => q.elim id (fun q => absurd q.1 (by simp)), Or.inl⟩)
theorem gCw_i1 {src : Nat → Nat} {L L' : List Nat} {i a : Nat} {x : Int32} (h : gCw s0 s src (fun b j => (b ∈ L ∧ j < i) ∨ (b ∈ L' ∧ j = i))) (hx : x = s0.1 (src a) i) : gCw s0 (gm_si s a i x) src (fun b j => (b ∈ L ∧ j < i) ∨ (b ∈ (a :: L') ∧ j = i)) := gCw_cg (gCw_si h hx) (fun b j => by
  rw [List.mem_cons]
  constructor
  · rintro (q | ⟨q | q, e⟩)
    · exact Or.inl (Or.inl q)
    · exact Or.inr ⟨q, e⟩
    · exact Or.inl (Or.inr ⟨q, e⟩)
  · rintro ((q | ⟨q, e⟩) | ⟨q, e⟩)
    · exact Or.inl q
    · exact Or.inr ⟨Or.inr q, e⟩
    · exact Or.inr ⟨Or.inl q, e⟩)
theorem gCw_i2 {src : Nat → Nat} {L : List Nat} {i : Nat} (h : gCw s0 s src (fun b j => (b ∈ L ∧ j < i) ∨ (b ∈ L ∧ j = i))) : gCw s0 s src (fun b j => b ∈ L ∧ j < i + 1) := gCw_cg h (fun b j => ⟨fun q => by
    by_cases e : j < i
    · exact Or.inl ⟨q.1, e⟩
    · exact Or.inr ⟨q.1, by omega⟩, fun q => by
    rcases q with q | q
    · exact ⟨q.1, by omega⟩
    · exact ⟨q.1, by omega⟩⟩)
theorem im_0 (hq : ∀ s', gCw s0 s' mImg (fun b j => b ∈ [170] ∧ j < 4) → gc_X w d 184 86 [some (.ref 137), some (.int 4)] [] (gm_m s') Q) : ∀ (n i : Nat) (s : gm_S), i + n = 4 → gCw s0 s mImg (fun b j => b ∈ [170] ∧ j < i) → gc_X w d 184 63 [some (.ref 137), some (.int (nI i))] [] (gm_m s) Q := by
  intro n
  induction n with
  | zero =>
    intro i s hi hC
    have e : i = 4 := by omega
    subst e
    have e2 : nI 4 = 4 := rfl
    rw [e2, E_X12_image_63]
    simp (decide := true) only [E_X12_image_64, E_X12_image_65, if_true]
    exact hq s hC
  | succ n ih =>
    intro i s hi hC
    have i1 : vp_in (nI i) 4 := vp_in_nI (by omega) (by omega)
    have i2 : (nI i).toNatClampNeg = i := nI_clamp (by omega)
    have hge : ¬ (4 : Int32) ≤ nI i := nI_ge (b := 4) (by omega) (by omega)
    have hi2 := ih (i + 1)
    rw [nI_succ] at hi2
    rw [E_X12_image_63]
    simp only [E_X12_image_0, E_X12_image_1, E_X12_image_2, E_X12_image_5, E_X12_image_6, E_X12_image_7, E_X12_image_10, E_X12_image_13, E_X12_image_14, E_X12_image_15, E_X12_image_18, E_X12_image_21, E_X12_image_22, E_X12_image_23, E_X12_image_26, E_X12_image_29, E_X12_image_30, E_X12_image_31, E_X12_image_34, E_X12_image_37, E_X12_image_38, E_X12_image_39, E_X12_image_42, E_X12_image_45, E_X12_image_46, E_X12_image_47, E_X12_image_50, E_X12_image_53, E_X12_image_54, E_X12_image_55, E_X12_image_58, E_X12_image_61, E_X12_image_62, E_X12_image_64, E_X12_image_65, E_X12_image_68, E_X12_image_69, E_X12_image_72, E_X12_image_73, E_X12_image_74, E_X12_image_77, E_X12_image_78, E_X12_image_79, E_X12_image_80, E_X12_image_83, E_X12_image_86, E_X12_image_87, E_X12_image_89, E_X12_image_91, E_X12_image_94, E_X12_image_95, E_X12_image_98, E_X12_image_99, E_X12_image_100, E_X12_image_103, E_X12_image_104, E_X12_image_105, E_X12_image_106, E_X12_image_107, E_X12_image_110, E_X12_image_111, E_X12_image_112, E_X12_image_115, E_X12_image_116, E_X12_image_117, E_X12_image_118, E_X12_image_119, E_X12_image_122, E_X12_image_123, E_X12_image_124, E_X12_image_127, E_X12_image_128, E_X12_image_129, E_X12_image_130, E_X12_image_133, E_X12_image_136, E_X12_image_137, E_X12_image_139, E_X12_image_141, E_X12_image_144, E_X12_image_145, E_X12_image_148, E_X12_image_149, E_X12_image_150, E_X12_image_153, E_X12_image_154, E_X12_image_155, E_X12_image_156, E_X12_image_159, E_X12_image_162, E_X12_image_163, E_X12_image_165, E_X12_image_167, E_X12_image_170, E_X12_image_171, E_X12_image_174, E_X12_image_175, E_X12_image_176, E_X12_image_179, E_X12_image_180, E_X12_image_181, E_X12_image_182, E_X12_image_183, E_X12_image_186, E_X12_image_187, E_X12_image_188, E_X12_image_191, E_X12_image_192, E_X12_image_193, E_X12_image_194, E_X12_image_195, E_X12_image_198, E_X12_image_199, E_X12_image_200, E_X12_image_203, E_X12_image_204, E_X12_image_205, E_X12_image_206, E_X12_image_207, E_X12_image_210, E_X12_image_211, E_X12_image_212, E_X12_image_215, E_X12_image_216, E_X12_image_217, E_X12_image_218, E_X12_image_219, E_X12_image_222, E_X12_image_223, E_X12_image_224, E_X12_image_227, E_X12_image_228, E_X12_image_229, E_X12_image_230, E_X12_image_231, E_X12_image_234, E_X12_image_235, E_X12_image_236, E_X12_image_239, E_X12_image_240, E_X12_image_241, E_X12_image_242, E_X12_image_243, E_X12_image_246, E_X12_image_247, E_X12_image_248, E_X12_image_251, E_X12_image_252, E_X12_image_253, E_X12_image_254, E_X12_image_257, E_X12_image_260, E_X12_image_261, E_X12_image_263, E_X12_image_264, E_X12_image_267, E_X12_image_268, E_X12_image_271, E_X12_image_272, E_X12_image_273, E_X12_image_276, E_X12_image_277, E_X12_image_278, E_X12_image_279, E_X12_image_280, E_X12_image_283, E_X12_image_284, E_X12_image_285, E_X12_image_288, E_X12_image_289, E_X12_image_290, E_X12_image_291, E_X12_image_292, E_X12_image_295, E_X12_image_296, E_X12_image_297, E_X12_image_300, E_X12_image_301, E_X12_image_302, E_X12_image_303, E_X12_image_306, E_X12_image_309, E_X12_image_310, E_X12_image_312, E_X12_image_314, E_X12_image_317, E_X12_image_318, E_X12_image_321, E_X12_image_322, E_X12_image_323, E_X12_image_326, E_X12_image_327, E_X12_image_328, E_X12_image_329, E_X12_image_330, E_X12_image_333, E_X12_image_334, E_X12_image_335, E_X12_image_338, E_X12_image_339, E_X12_image_340, E_X12_image_341, E_X12_image_344, E_X12_image_347, E_X12_image_348, E_X12_image_351, rk_137, rg_137_56, rg_137_3, ra_138, rv_138, ra_170, rs_170, i1, i2, hge, gsi_1, Nat.reduceEqDiff, false_and, gnk_i, gnk_r, gnk_n, gi_1, Nat.reduceLT, if_true, if_false]
    refine hi2 _ (by omega) (gCw_i2 (gCw_i1 (a := 170) (gCw_i0 hC) (gCw_at hC (fun q => absurd q.2 (Nat.lt_irrefl i)))))
theorem im_1 (hq : ∀ s', gCw s0 s' mImg (fun b j => b ∈ [173, 172, 171] ∧ j < 6) → gc_X w d 184 136 [some (.ref 137), some (.int 6)] [] (gm_m s') Q) : ∀ (n i : Nat) (s : gm_S), i + n = 6 → gCw s0 s mImg (fun b j => b ∈ [173, 172, 171] ∧ j < i) → gc_X w d 184 88 [some (.ref 137), some (.int (nI i))] [] (gm_m s) Q := by
  intro n
  induction n with
  | zero =>
    intro i s hi hC
    have e : i = 6 := by omega
    subst e
    have e2 : nI 6 = 6 := rfl
    rw [e2, E_X12_image_88]
    simp (decide := true) only [E_X12_image_89, E_X12_image_91, if_true]
    exact hq s hC
  | succ n ih =>
    intro i s hi hC
    have i1 : vp_in (nI i) 6 := vp_in_nI (by omega) (by omega)
    have i2 : (nI i).toNatClampNeg = i := nI_clamp (by omega)
    have hge : ¬ (6 : Int32) ≤ nI i := nI_ge (b := 6) (by omega) (by omega)
    have hi2 := ih (i + 1)
    rw [nI_succ] at hi2
    rw [E_X12_image_88]
    simp only [E_X12_image_0, E_X12_image_1, E_X12_image_2, E_X12_image_5, E_X12_image_6, E_X12_image_7, E_X12_image_10, E_X12_image_13, E_X12_image_14, E_X12_image_15, E_X12_image_18, E_X12_image_21, E_X12_image_22, E_X12_image_23, E_X12_image_26, E_X12_image_29, E_X12_image_30, E_X12_image_31, E_X12_image_34, E_X12_image_37, E_X12_image_38, E_X12_image_39, E_X12_image_42, E_X12_image_45, E_X12_image_46, E_X12_image_47, E_X12_image_50, E_X12_image_53, E_X12_image_54, E_X12_image_55, E_X12_image_58, E_X12_image_61, E_X12_image_62, E_X12_image_64, E_X12_image_65, E_X12_image_68, E_X12_image_69, E_X12_image_72, E_X12_image_73, E_X12_image_74, E_X12_image_77, E_X12_image_78, E_X12_image_79, E_X12_image_80, E_X12_image_83, E_X12_image_86, E_X12_image_87, E_X12_image_89, E_X12_image_91, E_X12_image_94, E_X12_image_95, E_X12_image_98, E_X12_image_99, E_X12_image_100, E_X12_image_103, E_X12_image_104, E_X12_image_105, E_X12_image_106, E_X12_image_107, E_X12_image_110, E_X12_image_111, E_X12_image_112, E_X12_image_115, E_X12_image_116, E_X12_image_117, E_X12_image_118, E_X12_image_119, E_X12_image_122, E_X12_image_123, E_X12_image_124, E_X12_image_127, E_X12_image_128, E_X12_image_129, E_X12_image_130, E_X12_image_133, E_X12_image_136, E_X12_image_137, E_X12_image_139, E_X12_image_141, E_X12_image_144, E_X12_image_145, E_X12_image_148, E_X12_image_149, E_X12_image_150, E_X12_image_153, E_X12_image_154, E_X12_image_155, E_X12_image_156, E_X12_image_159, E_X12_image_162, E_X12_image_163, E_X12_image_165, E_X12_image_167, E_X12_image_170, E_X12_image_171, E_X12_image_174, E_X12_image_175, E_X12_image_176, E_X12_image_179, E_X12_image_180, E_X12_image_181, E_X12_image_182, E_X12_image_183, E_X12_image_186, E_X12_image_187, E_X12_image_188, E_X12_image_191, E_X12_image_192, E_X12_image_193, E_X12_image_194, E_X12_image_195, E_X12_image_198, E_X12_image_199, E_X12_image_200, E_X12_image_203, E_X12_image_204, E_X12_image_205, E_X12_image_206, E_X12_image_207, E_X12_image_210, E_X12_image_211, E_X12_image_212, E_X12_image_215, E_X12_image_216, E_X12_image_217, E_X12_image_218, E_X12_image_219, E_X12_image_222, E_X12_image_223, E_X12_image_224, E_X12_image_227, E_X12_image_228, E_X12_image_229, E_X12_image_230, E_X12_image_231, E_X12_image_234, E_X12_image_235, E_X12_image_236, E_X12_image_239, E_X12_image_240, E_X12_image_241, E_X12_image_242, E_X12_image_243, E_X12_image_246, E_X12_image_247, E_X12_image_248, E_X12_image_251, E_X12_image_252, E_X12_image_253, E_X12_image_254, E_X12_image_257, E_X12_image_260, E_X12_image_261, E_X12_image_263, E_X12_image_264, E_X12_image_267, E_X12_image_268, E_X12_image_271, E_X12_image_272, E_X12_image_273, E_X12_image_276, E_X12_image_277, E_X12_image_278, E_X12_image_279, E_X12_image_280, E_X12_image_283, E_X12_image_284, E_X12_image_285, E_X12_image_288, E_X12_image_289, E_X12_image_290, E_X12_image_291, E_X12_image_292, E_X12_image_295, E_X12_image_296, E_X12_image_297, E_X12_image_300, E_X12_image_301, E_X12_image_302, E_X12_image_303, E_X12_image_306, E_X12_image_309, E_X12_image_310, E_X12_image_312, E_X12_image_314, E_X12_image_317, E_X12_image_318, E_X12_image_321, E_X12_image_322, E_X12_image_323, E_X12_image_326, E_X12_image_327, E_X12_image_328, E_X12_image_329, E_X12_image_330, E_X12_image_333, E_X12_image_334, E_X12_image_335, E_X12_image_338, E_X12_image_339, E_X12_image_340, E_X12_image_341, E_X12_image_344, E_X12_image_347, E_X12_image_348, E_X12_image_351, rk_137, rg_137_57, rg_137_4, ra_139, rv_139, ra_171, rs_171, rg_137_58, rg_137_5, ra_140, rv_140, ra_172, rs_172, rg_137_59, rg_137_6, ra_141, rv_141, ra_173, rs_173, i1, i2, hge, gsi_1, Nat.reduceEqDiff, false_and, gnk_i, gnk_r, gnk_n, gi_1, Nat.reduceLT, if_true, if_false]
    refine hi2 _ (by omega) (gCw_i2 (gCw_i1 (a := 173) (gCw_i1 (a := 172) (gCw_i1 (a := 171) (gCw_i0 hC) (gCw_at hC (fun q => absurd q.2 (Nat.lt_irrefl i)))) (gCw_at hC (fun q => absurd q.2 (Nat.lt_irrefl i)))) (gCw_at hC (fun q => absurd q.2 (Nat.lt_irrefl i)))))
theorem im_2 (hq : ∀ s', gCw s0 s' mImg (fun b j => b ∈ [174] ∧ j < 24) → gc_X w d 184 162 [some (.ref 137), some (.int 24)] [] (gm_m s') Q) : ∀ (n i : Nat) (s : gm_S), i + n = 24 → gCw s0 s mImg (fun b j => b ∈ [174] ∧ j < i) → gc_X w d 184 138 [some (.ref 137), some (.int (nI i))] [] (gm_m s) Q := by
  intro n
  induction n with
  | zero =>
    intro i s hi hC
    have e : i = 24 := by omega
    subst e
    have e2 : nI 24 = 24 := rfl
    rw [e2, E_X12_image_138]
    simp (decide := true) only [E_X12_image_139, E_X12_image_141, if_true]
    exact hq s hC
  | succ n ih =>
    intro i s hi hC
    have i1 : vp_in (nI i) 24 := vp_in_nI (by omega) (by omega)
    have i2 : (nI i).toNatClampNeg = i := nI_clamp (by omega)
    have hge : ¬ (24 : Int32) ≤ nI i := nI_ge (b := 24) (by omega) (by omega)
    have hi2 := ih (i + 1)
    rw [nI_succ] at hi2
    rw [E_X12_image_138]
    simp only [E_X12_image_0, E_X12_image_1, E_X12_image_2, E_X12_image_5, E_X12_image_6, E_X12_image_7, E_X12_image_10, E_X12_image_13, E_X12_image_14, E_X12_image_15, E_X12_image_18, E_X12_image_21, E_X12_image_22, E_X12_image_23, E_X12_image_26, E_X12_image_29, E_X12_image_30, E_X12_image_31, E_X12_image_34, E_X12_image_37, E_X12_image_38, E_X12_image_39, E_X12_image_42, E_X12_image_45, E_X12_image_46, E_X12_image_47, E_X12_image_50, E_X12_image_53, E_X12_image_54, E_X12_image_55, E_X12_image_58, E_X12_image_61, E_X12_image_62, E_X12_image_64, E_X12_image_65, E_X12_image_68, E_X12_image_69, E_X12_image_72, E_X12_image_73, E_X12_image_74, E_X12_image_77, E_X12_image_78, E_X12_image_79, E_X12_image_80, E_X12_image_83, E_X12_image_86, E_X12_image_87, E_X12_image_89, E_X12_image_91, E_X12_image_94, E_X12_image_95, E_X12_image_98, E_X12_image_99, E_X12_image_100, E_X12_image_103, E_X12_image_104, E_X12_image_105, E_X12_image_106, E_X12_image_107, E_X12_image_110, E_X12_image_111, E_X12_image_112, E_X12_image_115, E_X12_image_116, E_X12_image_117, E_X12_image_118, E_X12_image_119, E_X12_image_122, E_X12_image_123, E_X12_image_124, E_X12_image_127, E_X12_image_128, E_X12_image_129, E_X12_image_130, E_X12_image_133, E_X12_image_136, E_X12_image_137, E_X12_image_139, E_X12_image_141, E_X12_image_144, E_X12_image_145, E_X12_image_148, E_X12_image_149, E_X12_image_150, E_X12_image_153, E_X12_image_154, E_X12_image_155, E_X12_image_156, E_X12_image_159, E_X12_image_162, E_X12_image_163, E_X12_image_165, E_X12_image_167, E_X12_image_170, E_X12_image_171, E_X12_image_174, E_X12_image_175, E_X12_image_176, E_X12_image_179, E_X12_image_180, E_X12_image_181, E_X12_image_182, E_X12_image_183, E_X12_image_186, E_X12_image_187, E_X12_image_188, E_X12_image_191, E_X12_image_192, E_X12_image_193, E_X12_image_194, E_X12_image_195, E_X12_image_198, E_X12_image_199, E_X12_image_200, E_X12_image_203, E_X12_image_204, E_X12_image_205, E_X12_image_206, E_X12_image_207, E_X12_image_210, E_X12_image_211, E_X12_image_212, E_X12_image_215, E_X12_image_216, E_X12_image_217, E_X12_image_218, E_X12_image_219, E_X12_image_222, E_X12_image_223, E_X12_image_224, E_X12_image_227, E_X12_image_228, E_X12_image_229, E_X12_image_230, E_X12_image_231, E_X12_image_234, E_X12_image_235, E_X12_image_236, E_X12_image_239, E_X12_image_240, E_X12_image_241, E_X12_image_242, E_X12_image_243, E_X12_image_246, E_X12_image_247, E_X12_image_248, E_X12_image_251, E_X12_image_252, E_X12_image_253, E_X12_image_254, E_X12_image_257, E_X12_image_260, E_X12_image_261, E_X12_image_263, E_X12_image_264, E_X12_image_267, E_X12_image_268, E_X12_image_271, E_X12_image_272, E_X12_image_273, E_X12_image_276, E_X12_image_277, E_X12_image_278, E_X12_image_279, E_X12_image_280, E_X12_image_283, E_X12_image_284, E_X12_image_285, E_X12_image_288, E_X12_image_289, E_X12_image_290, E_X12_image_291, E_X12_image_292, E_X12_image_295, E_X12_image_296, E_X12_image_297, E_X12_image_300, E_X12_image_301, E_X12_image_302, E_X12_image_303, E_X12_image_306, E_X12_image_309, E_X12_image_310, E_X12_image_312, E_X12_image_314, E_X12_image_317, E_X12_image_318, E_X12_image_321, E_X12_image_322, E_X12_image_323, E_X12_image_326, E_X12_image_327, E_X12_image_328, E_X12_image_329, E_X12_image_330, E_X12_image_333, E_X12_image_334, E_X12_image_335, E_X12_image_338, E_X12_image_339, E_X12_image_340, E_X12_image_341, E_X12_image_344, E_X12_image_347, E_X12_image_348, E_X12_image_351, rk_137, rg_137_60, rg_137_7, ra_142, rv_142, ra_174, rs_174, i1, i2, hge, gsi_1, Nat.reduceEqDiff, false_and, gnk_i, gnk_r, gnk_n, gi_1, Nat.reduceLT, if_true, if_false]
    refine hi2 _ (by omega) (gCw_i2 (gCw_i1 (a := 174) (gCw_i0 hC) (gCw_at hC (fun q => absurd q.2 (Nat.lt_irrefl i)))))
theorem im_3 (hq : ∀ s', gCw s0 s' mImg (fun b j => b ∈ [186, 185, 179, 178, 177, 176, 175] ∧ j < 8) → gc_X w d 184 260 [some (.ref 137), some (.int 8)] [] (gm_m s') Q) : ∀ (n i : Nat) (s : gm_S), i + n = 8 → gCw s0 s mImg (fun b j => b ∈ [186, 185, 179, 178, 177, 176, 175] ∧ j < i) → gc_X w d 184 164 [some (.ref 137), some (.int (nI i))] [] (gm_m s) Q := by
  intro n
  induction n with
  | zero =>
    intro i s hi hC
    have e : i = 8 := by omega
    subst e
    have e2 : nI 8 = 8 := rfl
    rw [e2, E_X12_image_164]
    simp (decide := true) only [E_X12_image_165, E_X12_image_167, if_true]
    exact hq s hC
  | succ n ih =>
    intro i s hi hC
    have i1 : vp_in (nI i) 8 := vp_in_nI (by omega) (by omega)
    have i2 : (nI i).toNatClampNeg = i := nI_clamp (by omega)
    have hge : ¬ (8 : Int32) ≤ nI i := nI_ge (b := 8) (by omega) (by omega)
    have hi2 := ih (i + 1)
    rw [nI_succ] at hi2
    rw [E_X12_image_164]
    simp only [E_X12_image_0, E_X12_image_1, E_X12_image_2, E_X12_image_5, E_X12_image_6, E_X12_image_7, E_X12_image_10, E_X12_image_13, E_X12_image_14, E_X12_image_15, E_X12_image_18, E_X12_image_21, E_X12_image_22, E_X12_image_23, E_X12_image_26, E_X12_image_29, E_X12_image_30, E_X12_image_31, E_X12_image_34, E_X12_image_37, E_X12_image_38, E_X12_image_39, E_X12_image_42, E_X12_image_45, E_X12_image_46, E_X12_image_47, E_X12_image_50, E_X12_image_53, E_X12_image_54, E_X12_image_55, E_X12_image_58, E_X12_image_61, E_X12_image_62, E_X12_image_64, E_X12_image_65, E_X12_image_68, E_X12_image_69, E_X12_image_72, E_X12_image_73, E_X12_image_74, E_X12_image_77, E_X12_image_78, E_X12_image_79, E_X12_image_80, E_X12_image_83, E_X12_image_86, E_X12_image_87, E_X12_image_89, E_X12_image_91, E_X12_image_94, E_X12_image_95, E_X12_image_98, E_X12_image_99, E_X12_image_100, E_X12_image_103, E_X12_image_104, E_X12_image_105, E_X12_image_106, E_X12_image_107, E_X12_image_110, E_X12_image_111, E_X12_image_112, E_X12_image_115, E_X12_image_116, E_X12_image_117, E_X12_image_118, E_X12_image_119, E_X12_image_122, E_X12_image_123, E_X12_image_124, E_X12_image_127, E_X12_image_128, E_X12_image_129, E_X12_image_130, E_X12_image_133, E_X12_image_136, E_X12_image_137, E_X12_image_139, E_X12_image_141, E_X12_image_144, E_X12_image_145, E_X12_image_148, E_X12_image_149, E_X12_image_150, E_X12_image_153, E_X12_image_154, E_X12_image_155, E_X12_image_156, E_X12_image_159, E_X12_image_162, E_X12_image_163, E_X12_image_165, E_X12_image_167, E_X12_image_170, E_X12_image_171, E_X12_image_174, E_X12_image_175, E_X12_image_176, E_X12_image_179, E_X12_image_180, E_X12_image_181, E_X12_image_182, E_X12_image_183, E_X12_image_186, E_X12_image_187, E_X12_image_188, E_X12_image_191, E_X12_image_192, E_X12_image_193, E_X12_image_194, E_X12_image_195, E_X12_image_198, E_X12_image_199, E_X12_image_200, E_X12_image_203, E_X12_image_204, E_X12_image_205, E_X12_image_206, E_X12_image_207, E_X12_image_210, E_X12_image_211, E_X12_image_212, E_X12_image_215, E_X12_image_216, E_X12_image_217, E_X12_image_218, E_X12_image_219, E_X12_image_222, E_X12_image_223, E_X12_image_224, E_X12_image_227, E_X12_image_228, E_X12_image_229, E_X12_image_230, E_X12_image_231, E_X12_image_234, E_X12_image_235, E_X12_image_236, E_X12_image_239, E_X12_image_240, E_X12_image_241, E_X12_image_242, E_X12_image_243, E_X12_image_246, E_X12_image_247, E_X12_image_248, E_X12_image_251, E_X12_image_252, E_X12_image_253, E_X12_image_254, E_X12_image_257, E_X12_image_260, E_X12_image_261, E_X12_image_263, E_X12_image_264, E_X12_image_267, E_X12_image_268, E_X12_image_271, E_X12_image_272, E_X12_image_273, E_X12_image_276, E_X12_image_277, E_X12_image_278, E_X12_image_279, E_X12_image_280, E_X12_image_283, E_X12_image_284, E_X12_image_285, E_X12_image_288, E_X12_image_289, E_X12_image_290, E_X12_image_291, E_X12_image_292, E_X12_image_295, E_X12_image_296, E_X12_image_297, E_X12_image_300, E_X12_image_301, E_X12_image_302, E_X12_image_303, E_X12_image_306, E_X12_image_309, E_X12_image_310, E_X12_image_312, E_X12_image_314, E_X12_image_317, E_X12_image_318, E_X12_image_321, E_X12_image_322, E_X12_image_323, E_X12_image_326, E_X12_image_327, E_X12_image_328, E_X12_image_329, E_X12_image_330, E_X12_image_333, E_X12_image_334, E_X12_image_335, E_X12_image_338, E_X12_image_339, E_X12_image_340, E_X12_image_341, E_X12_image_344, E_X12_image_347, E_X12_image_348, E_X12_image_351, rk_137, rg_137_61, rg_137_8, ra_143, rv_143, ra_175, rs_175, rg_137_62, rg_137_9, ra_144, rv_144, ra_176, rs_176, rg_137_63, rg_137_10, ra_145, rv_145, ra_177, rs_177, rg_137_64, rg_137_11, ra_146, rv_146, ra_178, rs_178, rg_137_65, rg_137_12, ra_147, rv_147, ra_179, rs_179, rg_137_71, rg_137_46, ra_168, rv_168, ra_185, rs_185, rg_137_72, rg_137_47, ra_169, rv_169, ra_186, rs_186, i1, i2, hge, gsi_1, Nat.reduceEqDiff, false_and, gnk_i, gnk_r, gnk_n, gi_1, Nat.reduceLT, if_true, if_false]
    refine hi2 _ (by omega) (gCw_i2 (gCw_i1 (a := 186) (gCw_i1 (a := 185) (gCw_i1 (a := 179) (gCw_i1 (a := 178) (gCw_i1 (a := 177) (gCw_i1 (a := 176) (gCw_i1 (a := 175) (gCw_i0 hC) (gCw_at hC (fun q => absurd q.2 (Nat.lt_irrefl i)))) (gCw_at hC (fun q => absurd q.2 (Nat.lt_irrefl i)))) (gCw_at hC (fun q => absurd q.2 (Nat.lt_irrefl i)))) (gCw_at hC (fun q => absurd q.2 (Nat.lt_irrefl i)))) (gCw_at hC (fun q => absurd q.2 (Nat.lt_irrefl i)))) (gCw_at hC (fun q => absurd q.2 (Nat.lt_irrefl i)))) (gCw_at hC (fun q => absurd q.2 (Nat.lt_irrefl i)))))
theorem im_4 (hq : ∀ s', gCw s0 s' mImg (fun b j => b ∈ [182, 181, 180] ∧ j < 5) → gc_X w d 184 309 [some (.ref 137), some (.int 5)] [] (gm_m s') Q) : ∀ (n i : Nat) (s : gm_S), i + n = 5 → gCw s0 s mImg (fun b j => b ∈ [182, 181, 180] ∧ j < i) → gc_X w d 184 262 [some (.ref 137), some (.int (nI i))] [] (gm_m s) Q := by
  intro n
  induction n with
  | zero =>
    intro i s hi hC
    have e : i = 5 := by omega
    subst e
    have e2 : nI 5 = 5 := rfl
    rw [e2, E_X12_image_262]
    simp (decide := true) only [E_X12_image_263, E_X12_image_264, if_true]
    exact hq s hC
  | succ n ih =>
    intro i s hi hC
    have i1 : vp_in (nI i) 5 := vp_in_nI (by omega) (by omega)
    have i2 : (nI i).toNatClampNeg = i := nI_clamp (by omega)
    have hge : ¬ (5 : Int32) ≤ nI i := nI_ge (b := 5) (by omega) (by omega)
    have hi2 := ih (i + 1)
    rw [nI_succ] at hi2
    rw [E_X12_image_262]
    simp only [E_X12_image_0, E_X12_image_1, E_X12_image_2, E_X12_image_5, E_X12_image_6, E_X12_image_7, E_X12_image_10, E_X12_image_13, E_X12_image_14, E_X12_image_15, E_X12_image_18, E_X12_image_21, E_X12_image_22, E_X12_image_23, E_X12_image_26, E_X12_image_29, E_X12_image_30, E_X12_image_31, E_X12_image_34, E_X12_image_37, E_X12_image_38, E_X12_image_39, E_X12_image_42, E_X12_image_45, E_X12_image_46, E_X12_image_47, E_X12_image_50, E_X12_image_53, E_X12_image_54, E_X12_image_55, E_X12_image_58, E_X12_image_61, E_X12_image_62, E_X12_image_64, E_X12_image_65, E_X12_image_68, E_X12_image_69, E_X12_image_72, E_X12_image_73, E_X12_image_74, E_X12_image_77, E_X12_image_78, E_X12_image_79, E_X12_image_80, E_X12_image_83, E_X12_image_86, E_X12_image_87, E_X12_image_89, E_X12_image_91, E_X12_image_94, E_X12_image_95, E_X12_image_98, E_X12_image_99, E_X12_image_100, E_X12_image_103, E_X12_image_104, E_X12_image_105, E_X12_image_106, E_X12_image_107, E_X12_image_110, E_X12_image_111, E_X12_image_112, E_X12_image_115, E_X12_image_116, E_X12_image_117, E_X12_image_118, E_X12_image_119, E_X12_image_122, E_X12_image_123, E_X12_image_124, E_X12_image_127, E_X12_image_128, E_X12_image_129, E_X12_image_130, E_X12_image_133, E_X12_image_136, E_X12_image_137, E_X12_image_139, E_X12_image_141, E_X12_image_144, E_X12_image_145, E_X12_image_148, E_X12_image_149, E_X12_image_150, E_X12_image_153, E_X12_image_154, E_X12_image_155, E_X12_image_156, E_X12_image_159, E_X12_image_162, E_X12_image_163, E_X12_image_165, E_X12_image_167, E_X12_image_170, E_X12_image_171, E_X12_image_174, E_X12_image_175, E_X12_image_176, E_X12_image_179, E_X12_image_180, E_X12_image_181, E_X12_image_182, E_X12_image_183, E_X12_image_186, E_X12_image_187, E_X12_image_188, E_X12_image_191, E_X12_image_192, E_X12_image_193, E_X12_image_194, E_X12_image_195, E_X12_image_198, E_X12_image_199, E_X12_image_200, E_X12_image_203, E_X12_image_204, E_X12_image_205, E_X12_image_206, E_X12_image_207, E_X12_image_210, E_X12_image_211, E_X12_image_212, E_X12_image_215, E_X12_image_216, E_X12_image_217, E_X12_image_218, E_X12_image_219, E_X12_image_222, E_X12_image_223, E_X12_image_224, E_X12_image_227, E_X12_image_228, E_X12_image_229, E_X12_image_230, E_X12_image_231, E_X12_image_234, E_X12_image_235, E_X12_image_236, E_X12_image_239, E_X12_image_240, E_X12_image_241, E_X12_image_242, E_X12_image_243, E_X12_image_246, E_X12_image_247, E_X12_image_248, E_X12_image_251, E_X12_image_252, E_X12_image_253, E_X12_image_254, E_X12_image_257, E_X12_image_260, E_X12_image_261, E_X12_image_263, E_X12_image_264, E_X12_image_267, E_X12_image_268, E_X12_image_271, E_X12_image_272, E_X12_image_273, E_X12_image_276, E_X12_image_277, E_X12_image_278, E_X12_image_279, E_X12_image_280, E_X12_image_283, E_X12_image_284, E_X12_image_285, E_X12_image_288, E_X12_image_289, E_X12_image_290, E_X12_image_291, E_X12_image_292, E_X12_image_295, E_X12_image_296, E_X12_image_297, E_X12_image_300, E_X12_image_301, E_X12_image_302, E_X12_image_303, E_X12_image_306, E_X12_image_309, E_X12_image_310, E_X12_image_312, E_X12_image_314, E_X12_image_317, E_X12_image_318, E_X12_image_321, E_X12_image_322, E_X12_image_323, E_X12_image_326, E_X12_image_327, E_X12_image_328, E_X12_image_329, E_X12_image_330, E_X12_image_333, E_X12_image_334, E_X12_image_335, E_X12_image_338, E_X12_image_339, E_X12_image_340, E_X12_image_341, E_X12_image_344, E_X12_image_347, E_X12_image_348, E_X12_image_351, rk_137, rg_137_66, rg_137_39, ra_163, rv_163, ra_180, rs_180, rg_137_67, rg_137_40, ra_164, rv_164, ra_181, rs_181, rg_137_68, rg_137_41, ra_165, rv_165, ra_182, rs_182, i1, i2, hge, gsi_1, Nat.reduceEqDiff, false_and, gnk_i, gnk_r, gnk_n, gi_1, Nat.reduceLT, if_true, if_false]
    refine hi2 _ (by omega) (gCw_i2 (gCw_i1 (a := 182) (gCw_i1 (a := 181) (gCw_i1 (a := 180) (gCw_i0 hC) (gCw_at hC (fun q => absurd q.2 (Nat.lt_irrefl i)))) (gCw_at hC (fun q => absurd q.2 (Nat.lt_irrefl i)))) (gCw_at hC (fun q => absurd q.2 (Nat.lt_irrefl i)))))
theorem im_5 (hq : ∀ s', gCw s0 s' mImg (fun b j => b ∈ [184, 183] ∧ j < 10) → gc_X w d 184 347 [some (.ref 137), some (.int 10)] [] (gm_m s') Q) : ∀ (n i : Nat) (s : gm_S), i + n = 10 → gCw s0 s mImg (fun b j => b ∈ [184, 183] ∧ j < i) → gc_X w d 184 311 [some (.ref 137), some (.int (nI i))] [] (gm_m s) Q := by
  intro n
  induction n with
  | zero =>
    intro i s hi hC
    have e : i = 10 := by omega
    subst e
    have e2 : nI 10 = 10 := rfl
    rw [e2, E_X12_image_311]
    simp (decide := true) only [E_X12_image_312, E_X12_image_314, if_true]
    exact hq s hC
  | succ n ih =>
    intro i s hi hC
    have i1 : vp_in (nI i) 10 := vp_in_nI (by omega) (by omega)
    have i2 : (nI i).toNatClampNeg = i := nI_clamp (by omega)
    have hge : ¬ (10 : Int32) ≤ nI i := nI_ge (b := 10) (by omega) (by omega)
    have hi2 := ih (i + 1)
    rw [nI_succ] at hi2
    rw [E_X12_image_311]
    simp only [E_X12_image_0, E_X12_image_1, E_X12_image_2, E_X12_image_5, E_X12_image_6, E_X12_image_7, E_X12_image_10, E_X12_image_13, E_X12_image_14, E_X12_image_15, E_X12_image_18, E_X12_image_21, E_X12_image_22, E_X12_image_23, E_X12_image_26, E_X12_image_29, E_X12_image_30, E_X12_image_31, E_X12_image_34, E_X12_image_37, E_X12_image_38, E_X12_image_39, E_X12_image_42, E_X12_image_45, E_X12_image_46, E_X12_image_47, E_X12_image_50, E_X12_image_53, E_X12_image_54, E_X12_image_55, E_X12_image_58, E_X12_image_61, E_X12_image_62, E_X12_image_64, E_X12_image_65, E_X12_image_68, E_X12_image_69, E_X12_image_72, E_X12_image_73, E_X12_image_74, E_X12_image_77, E_X12_image_78, E_X12_image_79, E_X12_image_80, E_X12_image_83, E_X12_image_86, E_X12_image_87, E_X12_image_89, E_X12_image_91, E_X12_image_94, E_X12_image_95, E_X12_image_98, E_X12_image_99, E_X12_image_100, E_X12_image_103, E_X12_image_104, E_X12_image_105, E_X12_image_106, E_X12_image_107, E_X12_image_110, E_X12_image_111, E_X12_image_112, E_X12_image_115, E_X12_image_116, E_X12_image_117, E_X12_image_118, E_X12_image_119, E_X12_image_122, E_X12_image_123, E_X12_image_124, E_X12_image_127, E_X12_image_128, E_X12_image_129, E_X12_image_130, E_X12_image_133, E_X12_image_136, E_X12_image_137, E_X12_image_139, E_X12_image_141, E_X12_image_144, E_X12_image_145, E_X12_image_148, E_X12_image_149, E_X12_image_150, E_X12_image_153, E_X12_image_154, E_X12_image_155, E_X12_image_156, E_X12_image_159, E_X12_image_162, E_X12_image_163, E_X12_image_165, E_X12_image_167, E_X12_image_170, E_X12_image_171, E_X12_image_174, E_X12_image_175, E_X12_image_176, E_X12_image_179, E_X12_image_180, E_X12_image_181, E_X12_image_182, E_X12_image_183, E_X12_image_186, E_X12_image_187, E_X12_image_188, E_X12_image_191, E_X12_image_192, E_X12_image_193, E_X12_image_194, E_X12_image_195, E_X12_image_198, E_X12_image_199, E_X12_image_200, E_X12_image_203, E_X12_image_204, E_X12_image_205, E_X12_image_206, E_X12_image_207, E_X12_image_210, E_X12_image_211, E_X12_image_212, E_X12_image_215, E_X12_image_216, E_X12_image_217, E_X12_image_218, E_X12_image_219, E_X12_image_222, E_X12_image_223, E_X12_image_224, E_X12_image_227, E_X12_image_228, E_X12_image_229, E_X12_image_230, E_X12_image_231, E_X12_image_234, E_X12_image_235, E_X12_image_236, E_X12_image_239, E_X12_image_240, E_X12_image_241, E_X12_image_242, E_X12_image_243, E_X12_image_246, E_X12_image_247, E_X12_image_248, E_X12_image_251, E_X12_image_252, E_X12_image_253, E_X12_image_254, E_X12_image_257, E_X12_image_260, E_X12_image_261, E_X12_image_263, E_X12_image_264, E_X12_image_267, E_X12_image_268, E_X12_image_271, E_X12_image_272, E_X12_image_273, E_X12_image_276, E_X12_image_277, E_X12_image_278, E_X12_image_279, E_X12_image_280, E_X12_image_283, E_X12_image_284, E_X12_image_285, E_X12_image_288, E_X12_image_289, E_X12_image_290, E_X12_image_291, E_X12_image_292, E_X12_image_295, E_X12_image_296, E_X12_image_297, E_X12_image_300, E_X12_image_301, E_X12_image_302, E_X12_image_303, E_X12_image_306, E_X12_image_309, E_X12_image_310, E_X12_image_312, E_X12_image_314, E_X12_image_317, E_X12_image_318, E_X12_image_321, E_X12_image_322, E_X12_image_323, E_X12_image_326, E_X12_image_327, E_X12_image_328, E_X12_image_329, E_X12_image_330, E_X12_image_333, E_X12_image_334, E_X12_image_335, E_X12_image_338, E_X12_image_339, E_X12_image_340, E_X12_image_341, E_X12_image_344, E_X12_image_347, E_X12_image_348, E_X12_image_351, rk_137, rg_137_69, rg_137_44, ra_166, rv_166, ra_183, rs_183, rg_137_70, rg_137_45, ra_167, rv_167, ra_184, rs_184, i1, i2, hge, gsi_1, Nat.reduceEqDiff, false_and, gnk_i, gnk_r, gnk_n, gi_1, Nat.reduceLT, if_true, if_false]
    refine hi2 _ (by omega) (gCw_i2 (gCw_i1 (a := 184) (gCw_i1 (a := 183) (gCw_i0 hC) (gCw_at hC (fun q => absurd q.2 (Nat.lt_irrefl i)))) (gCw_at hC (fun q => absurd q.2 (Nat.lt_irrefl i)))))
theorem un_0 (hq : ∀ s', gCw s0 s' mUnd (fun b j => b ∈ [138] ∧ j < 4) → gc_X w d 185 91 [some (.ref 137), some (.int 4)] [] (gm_m s') Q) : ∀ (n i : Nat) (s : gm_S), i + n = 4 → gCw s0 s mUnd (fun b j => b ∈ [138] ∧ j < i) → gc_X w d 185 68 [some (.ref 137), some (.int (nI i))] [] (gm_m s) Q := by
  intro n
  induction n with
  | zero =>
    intro i s hi hC
    have e : i = 4 := by omega
    subst e
    have e2 : nI 4 = 4 := rfl
    rw [e2, E_X12_undo_68]
    simp (decide := true) only [E_X12_undo_69, E_X12_undo_70, if_true]
    exact hq s hC
  | succ n ih =>
    intro i s hi hC
    have i1 : vp_in (nI i) 4 := vp_in_nI (by omega) (by omega)
    have i2 : (nI i).toNatClampNeg = i := nI_clamp (by omega)
    have hge : ¬ (4 : Int32) ≤ nI i := nI_ge (b := 4) (by omega) (by omega)
    have hi2 := ih (i + 1)
    rw [nI_succ] at hi2
    rw [E_X12_undo_68]
    simp only [E_X12_undo_0, E_X12_undo_1, E_X12_undo_4, E_X12_undo_7, E_X12_undo_9, E_X12_undo_10, E_X12_undo_11, E_X12_undo_12, E_X12_undo_15, E_X12_undo_18, E_X12_undo_19, E_X12_undo_20, E_X12_undo_23, E_X12_undo_26, E_X12_undo_27, E_X12_undo_28, E_X12_undo_31, E_X12_undo_34, E_X12_undo_35, E_X12_undo_36, E_X12_undo_39, E_X12_undo_42, E_X12_undo_43, E_X12_undo_44, E_X12_undo_47, E_X12_undo_50, E_X12_undo_51, E_X12_undo_52, E_X12_undo_55, E_X12_undo_58, E_X12_undo_59, E_X12_undo_60, E_X12_undo_63, E_X12_undo_66, E_X12_undo_67, E_X12_undo_69, E_X12_undo_70, E_X12_undo_73, E_X12_undo_74, E_X12_undo_77, E_X12_undo_78, E_X12_undo_79, E_X12_undo_82, E_X12_undo_83, E_X12_undo_84, E_X12_undo_85, E_X12_undo_88, E_X12_undo_91, E_X12_undo_92, E_X12_undo_94, E_X12_undo_96, E_X12_undo_99, E_X12_undo_100, E_X12_undo_103, E_X12_undo_104, E_X12_undo_105, E_X12_undo_108, E_X12_undo_109, E_X12_undo_110, E_X12_undo_111, E_X12_undo_112, E_X12_undo_115, E_X12_undo_116, E_X12_undo_117, E_X12_undo_120, E_X12_undo_121, E_X12_undo_122, E_X12_undo_123, E_X12_undo_124, E_X12_undo_127, E_X12_undo_128, E_X12_undo_129, E_X12_undo_132, E_X12_undo_133, E_X12_undo_134, E_X12_undo_135, E_X12_undo_138, E_X12_undo_141, E_X12_undo_142, E_X12_undo_144, E_X12_undo_146, E_X12_undo_149, E_X12_undo_150, E_X12_undo_153, E_X12_undo_154, E_X12_undo_155, E_X12_undo_158, E_X12_undo_159, E_X12_undo_160, E_X12_undo_161, E_X12_undo_164, E_X12_undo_167, E_X12_undo_168, E_X12_undo_170, E_X12_undo_172, E_X12_undo_175, E_X12_undo_176, E_X12_undo_179, E_X12_undo_180, E_X12_undo_181, E_X12_undo_184, E_X12_undo_185, E_X12_undo_186, E_X12_undo_187, E_X12_undo_188, E_X12_undo_191, E_X12_undo_192, E_X12_undo_193, E_X12_undo_196, E_X12_undo_197, E_X12_undo_198, E_X12_undo_199, E_X12_undo_200, E_X12_undo_203, E_X12_undo_204, E_X12_undo_205, E_X12_undo_208, E_X12_undo_209, E_X12_undo_210, E_X12_undo_211, E_X12_undo_212, E_X12_undo_215, E_X12_undo_216, E_X12_undo_217, E_X12_undo_220, E_X12_undo_221, E_X12_undo_222, E_X12_undo_223, E_X12_undo_224, E_X12_undo_227, E_X12_undo_228, E_X12_undo_229, E_X12_undo_232, E_X12_undo_233, E_X12_undo_234, E_X12_undo_235, E_X12_undo_236, E_X12_undo_239, E_X12_undo_240, E_X12_undo_241, E_X12_undo_244, E_X12_undo_245, E_X12_undo_246, E_X12_undo_247, E_X12_undo_248, E_X12_undo_251, E_X12_undo_252, E_X12_undo_253, E_X12_undo_256, E_X12_undo_257, E_X12_undo_258, E_X12_undo_259, E_X12_undo_262, E_X12_undo_265, E_X12_undo_266, E_X12_undo_268, E_X12_undo_269, E_X12_undo_272, E_X12_undo_273, E_X12_undo_276, E_X12_undo_277, E_X12_undo_278, E_X12_undo_281, E_X12_undo_282, E_X12_undo_283, E_X12_undo_284, E_X12_undo_285, E_X12_undo_288, E_X12_undo_289, E_X12_undo_290, E_X12_undo_293, E_X12_undo_294, E_X12_undo_295, E_X12_undo_296, E_X12_undo_297, E_X12_undo_300, E_X12_undo_301, E_X12_undo_302, E_X12_undo_305, E_X12_undo_306, E_X12_undo_307, E_X12_undo_308, E_X12_undo_311, E_X12_undo_314, E_X12_undo_315, E_X12_undo_317, E_X12_undo_319, E_X12_undo_322, E_X12_undo_323, E_X12_undo_326, E_X12_undo_327, E_X12_undo_328, E_X12_undo_331, E_X12_undo_332, E_X12_undo_333, E_X12_undo_334, E_X12_undo_335, E_X12_undo_338, E_X12_undo_339, E_X12_undo_340, E_X12_undo_343, E_X12_undo_344, E_X12_undo_345, E_X12_undo_346, E_X12_undo_349, E_X12_undo_352, E_X12_undo_353, E_X12_undo_356, rk_137, rg_137_3, rg_137_56, ra_170, rv_170, ra_138, rs_138, i1, i2, hge, gsi_1, Nat.reduceEqDiff, false_and, gnk_i, gnk_r, gnk_n, gi_1, Nat.reduceLT, if_true, if_false]
    refine hi2 _ (by omega) (gCw_i2 (gCw_i1 (a := 138) (gCw_i0 hC) (gCw_at hC (fun q => absurd q.2 (Nat.lt_irrefl i)))))
theorem un_1 (hq : ∀ s', gCw s0 s' mUnd (fun b j => b ∈ [141, 140, 139] ∧ j < 6) → gc_X w d 185 141 [some (.ref 137), some (.int 6)] [] (gm_m s') Q) : ∀ (n i : Nat) (s : gm_S), i + n = 6 → gCw s0 s mUnd (fun b j => b ∈ [141, 140, 139] ∧ j < i) → gc_X w d 185 93 [some (.ref 137), some (.int (nI i))] [] (gm_m s) Q := by
  intro n
  induction n with
  | zero =>
    intro i s hi hC
    have e : i = 6 := by omega
    subst e
    have e2 : nI 6 = 6 := rfl
    rw [e2, E_X12_undo_93]
    simp (decide := true) only [E_X12_undo_94, E_X12_undo_96, if_true]
    exact hq s hC
  | succ n ih =>
    intro i s hi hC
    have i1 : vp_in (nI i) 6 := vp_in_nI (by omega) (by omega)
    have i2 : (nI i).toNatClampNeg = i := nI_clamp (by omega)
    have hge : ¬ (6 : Int32) ≤ nI i := nI_ge (b := 6) (by omega) (by omega)
    have hi2 := ih (i + 1)
    rw [nI_succ] at hi2
    rw [E_X12_undo_93]
    simp only [E_X12_undo_0, E_X12_undo_1, E_X12_undo_4, E_X12_undo_7, E_X12_undo_9, E_X12_undo_10, E_X12_undo_11, E_X12_undo_12, E_X12_undo_15, E_X12_undo_18, E_X12_undo_19, E_X12_undo_20, E_X12_undo_23, E_X12_undo_26, E_X12_undo_27, E_X12_undo_28, E_X12_undo_31, E_X12_undo_34, E_X12_undo_35, E_X12_undo_36, E_X12_undo_39, E_X12_undo_42, E_X12_undo_43, E_X12_undo_44, E_X12_undo_47, E_X12_undo_50, E_X12_undo_51, E_X12_undo_52, E_X12_undo_55, E_X12_undo_58, E_X12_undo_59, E_X12_undo_60, E_X12_undo_63, E_X12_undo_66, E_X12_undo_67, E_X12_undo_69, E_X12_undo_70, E_X12_undo_73, E_X12_undo_74, E_X12_undo_77, E_X12_undo_78, E_X12_undo_79, E_X12_undo_82, E_X12_undo_83, E_X12_undo_84, E_X12_undo_85, E_X12_undo_88, E_X12_undo_91, E_X12_undo_92, E_X12_undo_94, E_X12_undo_96, E_X12_undo_99, E_X12_undo_100, E_X12_undo_103, E_X12_undo_104, E_X12_undo_105, E_X12_undo_108, E_X12_undo_109, E_X12_undo_110, E_X12_undo_111, E_X12_undo_112, E_X12_undo_115, E_X12_undo_116, E_X12_undo_117, E_X12_undo_120, E_X12_undo_121, E_X12_undo_122, E_X12_undo_123, E_X12_undo_124, E_X12_undo_127, E_X12_undo_128, E_X12_undo_129, E_X12_undo_132, E_X12_undo_133, E_X12_undo_134, E_X12_undo_135, E_X12_undo_138, E_X12_undo_141, E_X12_undo_142, E_X12_undo_144, E_X12_undo_146, E_X12_undo_149, E_X12_undo_150, E_X12_undo_153, E_X12_undo_154, E_X12_undo_155, E_X12_undo_158, E_X12_undo_159, E_X12_undo_160, E_X12_undo_161, E_X12_undo_164, E_X12_undo_167, E_X12_undo_168, E_X12_undo_170, E_X12_undo_172, E_X12_undo_175, E_X12_undo_176, E_X12_undo_179, E_X12_undo_180, E_X12_undo_181, E_X12_undo_184, E_X12_undo_185, E_X12_undo_186, E_X12_undo_187, E_X12_undo_188, E_X12_undo_191, E_X12_undo_192, E_X12_undo_193, E_X12_undo_196, E_X12_undo_197, E_X12_undo_198, E_X12_undo_199, E_X12_undo_200, E_X12_undo_203, E_X12_undo_204, E_X12_undo_205, E_X12_undo_208, E_X12_undo_209, E_X12_undo_210, E_X12_undo_211, E_X12_undo_212, E_X12_undo_215, E_X12_undo_216, E_X12_undo_217, E_X12_undo_220, E_X12_undo_221, E_X12_undo_222, E_X12_undo_223, E_X12_undo_224, E_X12_undo_227, E_X12_undo_228, E_X12_undo_229, E_X12_undo_232, E_X12_undo_233, E_X12_undo_234, E_X12_undo_235, E_X12_undo_236, E_X12_undo_239, E_X12_undo_240, E_X12_undo_241, E_X12_undo_244, E_X12_undo_245, E_X12_undo_246, E_X12_undo_247, E_X12_undo_248, E_X12_undo_251, E_X12_undo_252, E_X12_undo_253, E_X12_undo_256, E_X12_undo_257, E_X12_undo_258, E_X12_undo_259, E_X12_undo_262, E_X12_undo_265, E_X12_undo_266, E_X12_undo_268, E_X12_undo_269, E_X12_undo_272, E_X12_undo_273, E_X12_undo_276, E_X12_undo_277, E_X12_undo_278, E_X12_undo_281, E_X12_undo_282, E_X12_undo_283, E_X12_undo_284, E_X12_undo_285, E_X12_undo_288, E_X12_undo_289, E_X12_undo_290, E_X12_undo_293, E_X12_undo_294, E_X12_undo_295, E_X12_undo_296, E_X12_undo_297, E_X12_undo_300, E_X12_undo_301, E_X12_undo_302, E_X12_undo_305, E_X12_undo_306, E_X12_undo_307, E_X12_undo_308, E_X12_undo_311, E_X12_undo_314, E_X12_undo_315, E_X12_undo_317, E_X12_undo_319, E_X12_undo_322, E_X12_undo_323, E_X12_undo_326, E_X12_undo_327, E_X12_undo_328, E_X12_undo_331, E_X12_undo_332, E_X12_undo_333, E_X12_undo_334, E_X12_undo_335, E_X12_undo_338, E_X12_undo_339, E_X12_undo_340, E_X12_undo_343, E_X12_undo_344, E_X12_undo_345, E_X12_undo_346, E_X12_undo_349, E_X12_undo_352, E_X12_undo_353, E_X12_undo_356, rk_137, rg_137_4, rg_137_57, ra_171, rv_171, ra_139, rs_139, rg_137_5, rg_137_58, ra_172, rv_172, ra_140, rs_140, rg_137_6, rg_137_59, ra_173, rv_173, ra_141, rs_141, i1, i2, hge, gsi_1, Nat.reduceEqDiff, false_and, gnk_i, gnk_r, gnk_n, gi_1, Nat.reduceLT, if_true, if_false]
    refine hi2 _ (by omega) (gCw_i2 (gCw_i1 (a := 141) (gCw_i1 (a := 140) (gCw_i1 (a := 139) (gCw_i0 hC) (gCw_at hC (fun q => absurd q.2 (Nat.lt_irrefl i)))) (gCw_at hC (fun q => absurd q.2 (Nat.lt_irrefl i)))) (gCw_at hC (fun q => absurd q.2 (Nat.lt_irrefl i)))))
theorem un_2 (hq : ∀ s', gCw s0 s' mUnd (fun b j => b ∈ [142] ∧ j < 24) → gc_X w d 185 167 [some (.ref 137), some (.int 24)] [] (gm_m s') Q) : ∀ (n i : Nat) (s : gm_S), i + n = 24 → gCw s0 s mUnd (fun b j => b ∈ [142] ∧ j < i) → gc_X w d 185 143 [some (.ref 137), some (.int (nI i))] [] (gm_m s) Q := by
  intro n
  induction n with
  | zero =>
    intro i s hi hC
    have e : i = 24 := by omega
    subst e
    have e2 : nI 24 = 24 := rfl
    rw [e2, E_X12_undo_143]
    simp (decide := true) only [E_X12_undo_144, E_X12_undo_146, if_true]
    exact hq s hC
  | succ n ih =>
    intro i s hi hC
    have i1 : vp_in (nI i) 24 := vp_in_nI (by omega) (by omega)
    have i2 : (nI i).toNatClampNeg = i := nI_clamp (by omega)
    have hge : ¬ (24 : Int32) ≤ nI i := nI_ge (b := 24) (by omega) (by omega)
    have hi2 := ih (i + 1)
    rw [nI_succ] at hi2
    rw [E_X12_undo_143]
    simp only [E_X12_undo_0, E_X12_undo_1, E_X12_undo_4, E_X12_undo_7, E_X12_undo_9, E_X12_undo_10, E_X12_undo_11, E_X12_undo_12, E_X12_undo_15, E_X12_undo_18, E_X12_undo_19, E_X12_undo_20, E_X12_undo_23, E_X12_undo_26, E_X12_undo_27, E_X12_undo_28, E_X12_undo_31, E_X12_undo_34, E_X12_undo_35, E_X12_undo_36, E_X12_undo_39, E_X12_undo_42, E_X12_undo_43, E_X12_undo_44, E_X12_undo_47, E_X12_undo_50, E_X12_undo_51, E_X12_undo_52, E_X12_undo_55, E_X12_undo_58, E_X12_undo_59, E_X12_undo_60, E_X12_undo_63, E_X12_undo_66, E_X12_undo_67, E_X12_undo_69, E_X12_undo_70, E_X12_undo_73, E_X12_undo_74, E_X12_undo_77, E_X12_undo_78, E_X12_undo_79, E_X12_undo_82, E_X12_undo_83, E_X12_undo_84, E_X12_undo_85, E_X12_undo_88, E_X12_undo_91, E_X12_undo_92, E_X12_undo_94, E_X12_undo_96, E_X12_undo_99, E_X12_undo_100, E_X12_undo_103, E_X12_undo_104, E_X12_undo_105, E_X12_undo_108, E_X12_undo_109, E_X12_undo_110, E_X12_undo_111, E_X12_undo_112, E_X12_undo_115, E_X12_undo_116, E_X12_undo_117, E_X12_undo_120, E_X12_undo_121, E_X12_undo_122, E_X12_undo_123, E_X12_undo_124, E_X12_undo_127, E_X12_undo_128, E_X12_undo_129, E_X12_undo_132, E_X12_undo_133, E_X12_undo_134, E_X12_undo_135, E_X12_undo_138, E_X12_undo_141, E_X12_undo_142, E_X12_undo_144, E_X12_undo_146, E_X12_undo_149, E_X12_undo_150, E_X12_undo_153, E_X12_undo_154, E_X12_undo_155, E_X12_undo_158, E_X12_undo_159, E_X12_undo_160, E_X12_undo_161, E_X12_undo_164, E_X12_undo_167, E_X12_undo_168, E_X12_undo_170, E_X12_undo_172, E_X12_undo_175, E_X12_undo_176, E_X12_undo_179, E_X12_undo_180, E_X12_undo_181, E_X12_undo_184, E_X12_undo_185, E_X12_undo_186, E_X12_undo_187, E_X12_undo_188, E_X12_undo_191, E_X12_undo_192, E_X12_undo_193, E_X12_undo_196, E_X12_undo_197, E_X12_undo_198, E_X12_undo_199, E_X12_undo_200, E_X12_undo_203, E_X12_undo_204, E_X12_undo_205, E_X12_undo_208, E_X12_undo_209, E_X12_undo_210, E_X12_undo_211, E_X12_undo_212, E_X12_undo_215, E_X12_undo_216, E_X12_undo_217, E_X12_undo_220, E_X12_undo_221, E_X12_undo_222, E_X12_undo_223, E_X12_undo_224, E_X12_undo_227, E_X12_undo_228, E_X12_undo_229, E_X12_undo_232, E_X12_undo_233, E_X12_undo_234, E_X12_undo_235, E_X12_undo_236, E_X12_undo_239, E_X12_undo_240, E_X12_undo_241, E_X12_undo_244, E_X12_undo_245, E_X12_undo_246, E_X12_undo_247, E_X12_undo_248, E_X12_undo_251, E_X12_undo_252, E_X12_undo_253, E_X12_undo_256, E_X12_undo_257, E_X12_undo_258, E_X12_undo_259, E_X12_undo_262, E_X12_undo_265, E_X12_undo_266, E_X12_undo_268, E_X12_undo_269, E_X12_undo_272, E_X12_undo_273, E_X12_undo_276, E_X12_undo_277, E_X12_undo_278, E_X12_undo_281, E_X12_undo_282, E_X12_undo_283, E_X12_undo_284, E_X12_undo_285, E_X12_undo_288, E_X12_undo_289, E_X12_undo_290, E_X12_undo_293, E_X12_undo_294, E_X12_undo_295, E_X12_undo_296, E_X12_undo_297, E_X12_undo_300, E_X12_undo_301, E_X12_undo_302, E_X12_undo_305, E_X12_undo_306, E_X12_undo_307, E_X12_undo_308, E_X12_undo_311, E_X12_undo_314, E_X12_undo_315, E_X12_undo_317, E_X12_undo_319, E_X12_undo_322, E_X12_undo_323, E_X12_undo_326, E_X12_undo_327, E_X12_undo_328, E_X12_undo_331, E_X12_undo_332, E_X12_undo_333, E_X12_undo_334, E_X12_undo_335, E_X12_undo_338, E_X12_undo_339, E_X12_undo_340, E_X12_undo_343, E_X12_undo_344, E_X12_undo_345, E_X12_undo_346, E_X12_undo_349, E_X12_undo_352, E_X12_undo_353, E_X12_undo_356, rk_137, rg_137_7, rg_137_60, ra_174, rv_174, ra_142, rs_142, i1, i2, hge, gsi_1, Nat.reduceEqDiff, false_and, gnk_i, gnk_r, gnk_n, gi_1, Nat.reduceLT, if_true, if_false]
    refine hi2 _ (by omega) (gCw_i2 (gCw_i1 (a := 142) (gCw_i0 hC) (gCw_at hC (fun q => absurd q.2 (Nat.lt_irrefl i)))))
theorem un_3 (hq : ∀ s', gCw s0 s' mUnd (fun b j => b ∈ [169, 168, 147, 146, 145, 144, 143] ∧ j < 8) → gc_X w d 185 265 [some (.ref 137), some (.int 8)] [] (gm_m s') Q) : ∀ (n i : Nat) (s : gm_S), i + n = 8 → gCw s0 s mUnd (fun b j => b ∈ [169, 168, 147, 146, 145, 144, 143] ∧ j < i) → gc_X w d 185 169 [some (.ref 137), some (.int (nI i))] [] (gm_m s) Q := by
  intro n
  induction n with
  | zero =>
    intro i s hi hC
    have e : i = 8 := by omega
    subst e
    have e2 : nI 8 = 8 := rfl
    rw [e2, E_X12_undo_169]
    simp (decide := true) only [E_X12_undo_170, E_X12_undo_172, if_true]
    exact hq s hC
  | succ n ih =>
    intro i s hi hC
    have i1 : vp_in (nI i) 8 := vp_in_nI (by omega) (by omega)
    have i2 : (nI i).toNatClampNeg = i := nI_clamp (by omega)
    have hge : ¬ (8 : Int32) ≤ nI i := nI_ge (b := 8) (by omega) (by omega)
    have hi2 := ih (i + 1)
    rw [nI_succ] at hi2
    rw [E_X12_undo_169]
    simp only [E_X12_undo_0, E_X12_undo_1, E_X12_undo_4, E_X12_undo_7, E_X12_undo_9, E_X12_undo_10, E_X12_undo_11, E_X12_undo_12, E_X12_undo_15, E_X12_undo_18, E_X12_undo_19, E_X12_undo_20, E_X12_undo_23, E_X12_undo_26, E_X12_undo_27, E_X12_undo_28, E_X12_undo_31, E_X12_undo_34, E_X12_undo_35, E_X12_undo_36, E_X12_undo_39, E_X12_undo_42, E_X12_undo_43, E_X12_undo_44, E_X12_undo_47, E_X12_undo_50, E_X12_undo_51, E_X12_undo_52, E_X12_undo_55, E_X12_undo_58, E_X12_undo_59, E_X12_undo_60, E_X12_undo_63, E_X12_undo_66, E_X12_undo_67, E_X12_undo_69, E_X12_undo_70, E_X12_undo_73, E_X12_undo_74, E_X12_undo_77, E_X12_undo_78, E_X12_undo_79, E_X12_undo_82, E_X12_undo_83, E_X12_undo_84, E_X12_undo_85, E_X12_undo_88, E_X12_undo_91, E_X12_undo_92, E_X12_undo_94, E_X12_undo_96, E_X12_undo_99, E_X12_undo_100, E_X12_undo_103, E_X12_undo_104, E_X12_undo_105, E_X12_undo_108, E_X12_undo_109, E_X12_undo_110, E_X12_undo_111, E_X12_undo_112, E_X12_undo_115, E_X12_undo_116, E_X12_undo_117, E_X12_undo_120, E_X12_undo_121, E_X12_undo_122, E_X12_undo_123, E_X12_undo_124, E_X12_undo_127, E_X12_undo_128, E_X12_undo_129, E_X12_undo_132, E_X12_undo_133, E_X12_undo_134, E_X12_undo_135, E_X12_undo_138, E_X12_undo_141, E_X12_undo_142, E_X12_undo_144, E_X12_undo_146, E_X12_undo_149, E_X12_undo_150, E_X12_undo_153, E_X12_undo_154, E_X12_undo_155, E_X12_undo_158, E_X12_undo_159, E_X12_undo_160, E_X12_undo_161, E_X12_undo_164, E_X12_undo_167, E_X12_undo_168, E_X12_undo_170, E_X12_undo_172, E_X12_undo_175, E_X12_undo_176, E_X12_undo_179, E_X12_undo_180, E_X12_undo_181, E_X12_undo_184, E_X12_undo_185, E_X12_undo_186, E_X12_undo_187, E_X12_undo_188, E_X12_undo_191, E_X12_undo_192, E_X12_undo_193, E_X12_undo_196, E_X12_undo_197, E_X12_undo_198, E_X12_undo_199, E_X12_undo_200, E_X12_undo_203, E_X12_undo_204, E_X12_undo_205, E_X12_undo_208, E_X12_undo_209, E_X12_undo_210, E_X12_undo_211, E_X12_undo_212, E_X12_undo_215, E_X12_undo_216, E_X12_undo_217, E_X12_undo_220, E_X12_undo_221, E_X12_undo_222, E_X12_undo_223, E_X12_undo_224, E_X12_undo_227, E_X12_undo_228, E_X12_undo_229, E_X12_undo_232, E_X12_undo_233, E_X12_undo_234, E_X12_undo_235, E_X12_undo_236, E_X12_undo_239, E_X12_undo_240, E_X12_undo_241, E_X12_undo_244, E_X12_undo_245, E_X12_undo_246, E_X12_undo_247, E_X12_undo_248, E_X12_undo_251, E_X12_undo_252, E_X12_undo_253, E_X12_undo_256, E_X12_undo_257, E_X12_undo_258, E_X12_undo_259, E_X12_undo_262, E_X12_undo_265, E_X12_undo_266, E_X12_undo_268, E_X12_undo_269, E_X12_undo_272, E_X12_undo_273, E_X12_undo_276, E_X12_undo_277, E_X12_undo_278, E_X12_undo_281, E_X12_undo_282, E_X12_undo_283, E_X12_undo_284, E_X12_undo_285, E_X12_undo_288, E_X12_undo_289, E_X12_undo_290, E_X12_undo_293, E_X12_undo_294, E_X12_undo_295, E_X12_undo_296, E_X12_undo_297, E_X12_undo_300, E_X12_undo_301, E_X12_undo_302, E_X12_undo_305, E_X12_undo_306, E_X12_undo_307, E_X12_undo_308, E_X12_undo_311, E_X12_undo_314, E_X12_undo_315, E_X12_undo_317, E_X12_undo_319, E_X12_undo_322, E_X12_undo_323, E_X12_undo_326, E_X12_undo_327, E_X12_undo_328, E_X12_undo_331, E_X12_undo_332, E_X12_undo_333, E_X12_undo_334, E_X12_undo_335, E_X12_undo_338, E_X12_undo_339, E_X12_undo_340, E_X12_undo_343, E_X12_undo_344, E_X12_undo_345, E_X12_undo_346, E_X12_undo_349, E_X12_undo_352, E_X12_undo_353, E_X12_undo_356, rk_137, rg_137_8, rg_137_61, ra_175, rv_175, ra_143, rs_143, rg_137_9, rg_137_62, ra_176, rv_176, ra_144, rs_144, rg_137_10, rg_137_63, ra_177, rv_177, ra_145, rs_145, rg_137_11, rg_137_64, ra_178, rv_178, ra_146, rs_146, rg_137_12, rg_137_65, ra_179, rv_179, ra_147, rs_147, rg_137_46, rg_137_71, ra_185, rv_185, ra_168, rs_168, rg_137_47, rg_137_72, ra_186, rv_186, ra_169, rs_169, i1, i2, hge, gsi_1, Nat.reduceEqDiff, false_and, gnk_i, gnk_r, gnk_n, gi_1, Nat.reduceLT, if_true, if_false]
    refine hi2 _ (by omega) (gCw_i2 (gCw_i1 (a := 169) (gCw_i1 (a := 168) (gCw_i1 (a := 147) (gCw_i1 (a := 146) (gCw_i1 (a := 145) (gCw_i1 (a := 144) (gCw_i1 (a := 143) (gCw_i0 hC) (gCw_at hC (fun q => absurd q.2 (Nat.lt_irrefl i)))) (gCw_at hC (fun q => absurd q.2 (Nat.lt_irrefl i)))) (gCw_at hC (fun q => absurd q.2 (Nat.lt_irrefl i)))) (gCw_at hC (fun q => absurd q.2 (Nat.lt_irrefl i)))) (gCw_at hC (fun q => absurd q.2 (Nat.lt_irrefl i)))) (gCw_at hC (fun q => absurd q.2 (Nat.lt_irrefl i)))) (gCw_at hC (fun q => absurd q.2 (Nat.lt_irrefl i)))))
theorem un_4 (hq : ∀ s', gCw s0 s' mUnd (fun b j => b ∈ [165, 164, 163] ∧ j < 5) → gc_X w d 185 314 [some (.ref 137), some (.int 5)] [] (gm_m s') Q) : ∀ (n i : Nat) (s : gm_S), i + n = 5 → gCw s0 s mUnd (fun b j => b ∈ [165, 164, 163] ∧ j < i) → gc_X w d 185 267 [some (.ref 137), some (.int (nI i))] [] (gm_m s) Q := by
  intro n
  induction n with
  | zero =>
    intro i s hi hC
    have e : i = 5 := by omega
    subst e
    have e2 : nI 5 = 5 := rfl
    rw [e2, E_X12_undo_267]
    simp (decide := true) only [E_X12_undo_268, E_X12_undo_269, if_true]
    exact hq s hC
  | succ n ih =>
    intro i s hi hC
    have i1 : vp_in (nI i) 5 := vp_in_nI (by omega) (by omega)
    have i2 : (nI i).toNatClampNeg = i := nI_clamp (by omega)
    have hge : ¬ (5 : Int32) ≤ nI i := nI_ge (b := 5) (by omega) (by omega)
    have hi2 := ih (i + 1)
    rw [nI_succ] at hi2
    rw [E_X12_undo_267]
    simp only [E_X12_undo_0, E_X12_undo_1, E_X12_undo_4, E_X12_undo_7, E_X12_undo_9, E_X12_undo_10, E_X12_undo_11, E_X12_undo_12, E_X12_undo_15, E_X12_undo_18, E_X12_undo_19, E_X12_undo_20, E_X12_undo_23, E_X12_undo_26, E_X12_undo_27, E_X12_undo_28, E_X12_undo_31, E_X12_undo_34, E_X12_undo_35, E_X12_undo_36, E_X12_undo_39, E_X12_undo_42, E_X12_undo_43, E_X12_undo_44, E_X12_undo_47, E_X12_undo_50, E_X12_undo_51, E_X12_undo_52, E_X12_undo_55, E_X12_undo_58, E_X12_undo_59, E_X12_undo_60, E_X12_undo_63, E_X12_undo_66, E_X12_undo_67, E_X12_undo_69, E_X12_undo_70, E_X12_undo_73, E_X12_undo_74, E_X12_undo_77, E_X12_undo_78, E_X12_undo_79, E_X12_undo_82, E_X12_undo_83, E_X12_undo_84, E_X12_undo_85, E_X12_undo_88, E_X12_undo_91, E_X12_undo_92, E_X12_undo_94, E_X12_undo_96, E_X12_undo_99, E_X12_undo_100, E_X12_undo_103, E_X12_undo_104, E_X12_undo_105, E_X12_undo_108, E_X12_undo_109, E_X12_undo_110, E_X12_undo_111, E_X12_undo_112, E_X12_undo_115, E_X12_undo_116, E_X12_undo_117, E_X12_undo_120, E_X12_undo_121, E_X12_undo_122, E_X12_undo_123, E_X12_undo_124, E_X12_undo_127, E_X12_undo_128, E_X12_undo_129, E_X12_undo_132, E_X12_undo_133, E_X12_undo_134, E_X12_undo_135, E_X12_undo_138, E_X12_undo_141, E_X12_undo_142, E_X12_undo_144, E_X12_undo_146, E_X12_undo_149, E_X12_undo_150, E_X12_undo_153, E_X12_undo_154, E_X12_undo_155, E_X12_undo_158, E_X12_undo_159, E_X12_undo_160, E_X12_undo_161, E_X12_undo_164, E_X12_undo_167, E_X12_undo_168, E_X12_undo_170, E_X12_undo_172, E_X12_undo_175, E_X12_undo_176, E_X12_undo_179, E_X12_undo_180, E_X12_undo_181, E_X12_undo_184, E_X12_undo_185, E_X12_undo_186, E_X12_undo_187, E_X12_undo_188, E_X12_undo_191, E_X12_undo_192, E_X12_undo_193, E_X12_undo_196, E_X12_undo_197, E_X12_undo_198, E_X12_undo_199, E_X12_undo_200, E_X12_undo_203, E_X12_undo_204, E_X12_undo_205, E_X12_undo_208, E_X12_undo_209, E_X12_undo_210, E_X12_undo_211, E_X12_undo_212, E_X12_undo_215, E_X12_undo_216, E_X12_undo_217, E_X12_undo_220, E_X12_undo_221, E_X12_undo_222, E_X12_undo_223, E_X12_undo_224, E_X12_undo_227, E_X12_undo_228, E_X12_undo_229, E_X12_undo_232, E_X12_undo_233, E_X12_undo_234, E_X12_undo_235, E_X12_undo_236, E_X12_undo_239, E_X12_undo_240, E_X12_undo_241, E_X12_undo_244, E_X12_undo_245, E_X12_undo_246, E_X12_undo_247, E_X12_undo_248, E_X12_undo_251, E_X12_undo_252, E_X12_undo_253, E_X12_undo_256, E_X12_undo_257, E_X12_undo_258, E_X12_undo_259, E_X12_undo_262, E_X12_undo_265, E_X12_undo_266, E_X12_undo_268, E_X12_undo_269, E_X12_undo_272, E_X12_undo_273, E_X12_undo_276, E_X12_undo_277, E_X12_undo_278, E_X12_undo_281, E_X12_undo_282, E_X12_undo_283, E_X12_undo_284, E_X12_undo_285, E_X12_undo_288, E_X12_undo_289, E_X12_undo_290, E_X12_undo_293, E_X12_undo_294, E_X12_undo_295, E_X12_undo_296, E_X12_undo_297, E_X12_undo_300, E_X12_undo_301, E_X12_undo_302, E_X12_undo_305, E_X12_undo_306, E_X12_undo_307, E_X12_undo_308, E_X12_undo_311, E_X12_undo_314, E_X12_undo_315, E_X12_undo_317, E_X12_undo_319, E_X12_undo_322, E_X12_undo_323, E_X12_undo_326, E_X12_undo_327, E_X12_undo_328, E_X12_undo_331, E_X12_undo_332, E_X12_undo_333, E_X12_undo_334, E_X12_undo_335, E_X12_undo_338, E_X12_undo_339, E_X12_undo_340, E_X12_undo_343, E_X12_undo_344, E_X12_undo_345, E_X12_undo_346, E_X12_undo_349, E_X12_undo_352, E_X12_undo_353, E_X12_undo_356, rk_137, rg_137_39, rg_137_66, ra_180, rv_180, ra_163, rs_163, rg_137_40, rg_137_67, ra_181, rv_181, ra_164, rs_164, rg_137_41, rg_137_68, ra_182, rv_182, ra_165, rs_165, i1, i2, hge, gsi_1, Nat.reduceEqDiff, false_and, gnk_i, gnk_r, gnk_n, gi_1, Nat.reduceLT, if_true, if_false]
    refine hi2 _ (by omega) (gCw_i2 (gCw_i1 (a := 165) (gCw_i1 (a := 164) (gCw_i1 (a := 163) (gCw_i0 hC) (gCw_at hC (fun q => absurd q.2 (Nat.lt_irrefl i)))) (gCw_at hC (fun q => absurd q.2 (Nat.lt_irrefl i)))) (gCw_at hC (fun q => absurd q.2 (Nat.lt_irrefl i)))))
theorem un_5 (hq : ∀ s', gCw s0 s' mUnd (fun b j => b ∈ [167, 166] ∧ j < 10) → gc_X w d 185 352 [some (.ref 137), some (.int 10)] [] (gm_m s') Q) : ∀ (n i : Nat) (s : gm_S), i + n = 10 → gCw s0 s mUnd (fun b j => b ∈ [167, 166] ∧ j < i) → gc_X w d 185 316 [some (.ref 137), some (.int (nI i))] [] (gm_m s) Q := by
  intro n
  induction n with
  | zero =>
    intro i s hi hC
    have e : i = 10 := by omega
    subst e
    have e2 : nI 10 = 10 := rfl
    rw [e2, E_X12_undo_316]
    simp (decide := true) only [E_X12_undo_317, E_X12_undo_319, if_true]
    exact hq s hC
  | succ n ih =>
    intro i s hi hC
    have i1 : vp_in (nI i) 10 := vp_in_nI (by omega) (by omega)
    have i2 : (nI i).toNatClampNeg = i := nI_clamp (by omega)
    have hge : ¬ (10 : Int32) ≤ nI i := nI_ge (b := 10) (by omega) (by omega)
    have hi2 := ih (i + 1)
    rw [nI_succ] at hi2
    rw [E_X12_undo_316]
    simp only [E_X12_undo_0, E_X12_undo_1, E_X12_undo_4, E_X12_undo_7, E_X12_undo_9, E_X12_undo_10, E_X12_undo_11, E_X12_undo_12, E_X12_undo_15, E_X12_undo_18, E_X12_undo_19, E_X12_undo_20, E_X12_undo_23, E_X12_undo_26, E_X12_undo_27, E_X12_undo_28, E_X12_undo_31, E_X12_undo_34, E_X12_undo_35, E_X12_undo_36, E_X12_undo_39, E_X12_undo_42, E_X12_undo_43, E_X12_undo_44, E_X12_undo_47, E_X12_undo_50, E_X12_undo_51, E_X12_undo_52, E_X12_undo_55, E_X12_undo_58, E_X12_undo_59, E_X12_undo_60, E_X12_undo_63, E_X12_undo_66, E_X12_undo_67, E_X12_undo_69, E_X12_undo_70, E_X12_undo_73, E_X12_undo_74, E_X12_undo_77, E_X12_undo_78, E_X12_undo_79, E_X12_undo_82, E_X12_undo_83, E_X12_undo_84, E_X12_undo_85, E_X12_undo_88, E_X12_undo_91, E_X12_undo_92, E_X12_undo_94, E_X12_undo_96, E_X12_undo_99, E_X12_undo_100, E_X12_undo_103, E_X12_undo_104, E_X12_undo_105, E_X12_undo_108, E_X12_undo_109, E_X12_undo_110, E_X12_undo_111, E_X12_undo_112, E_X12_undo_115, E_X12_undo_116, E_X12_undo_117, E_X12_undo_120, E_X12_undo_121, E_X12_undo_122, E_X12_undo_123, E_X12_undo_124, E_X12_undo_127, E_X12_undo_128, E_X12_undo_129, E_X12_undo_132, E_X12_undo_133, E_X12_undo_134, E_X12_undo_135, E_X12_undo_138, E_X12_undo_141, E_X12_undo_142, E_X12_undo_144, E_X12_undo_146, E_X12_undo_149, E_X12_undo_150, E_X12_undo_153, E_X12_undo_154, E_X12_undo_155, E_X12_undo_158, E_X12_undo_159, E_X12_undo_160, E_X12_undo_161, E_X12_undo_164, E_X12_undo_167, E_X12_undo_168, E_X12_undo_170, E_X12_undo_172, E_X12_undo_175, E_X12_undo_176, E_X12_undo_179, E_X12_undo_180, E_X12_undo_181, E_X12_undo_184, E_X12_undo_185, E_X12_undo_186, E_X12_undo_187, E_X12_undo_188, E_X12_undo_191, E_X12_undo_192, E_X12_undo_193, E_X12_undo_196, E_X12_undo_197, E_X12_undo_198, E_X12_undo_199, E_X12_undo_200, E_X12_undo_203, E_X12_undo_204, E_X12_undo_205, E_X12_undo_208, E_X12_undo_209, E_X12_undo_210, E_X12_undo_211, E_X12_undo_212, E_X12_undo_215, E_X12_undo_216, E_X12_undo_217, E_X12_undo_220, E_X12_undo_221, E_X12_undo_222, E_X12_undo_223, E_X12_undo_224, E_X12_undo_227, E_X12_undo_228, E_X12_undo_229, E_X12_undo_232, E_X12_undo_233, E_X12_undo_234, E_X12_undo_235, E_X12_undo_236, E_X12_undo_239, E_X12_undo_240, E_X12_undo_241, E_X12_undo_244, E_X12_undo_245, E_X12_undo_246, E_X12_undo_247, E_X12_undo_248, E_X12_undo_251, E_X12_undo_252, E_X12_undo_253, E_X12_undo_256, E_X12_undo_257, E_X12_undo_258, E_X12_undo_259, E_X12_undo_262, E_X12_undo_265, E_X12_undo_266, E_X12_undo_268, E_X12_undo_269, E_X12_undo_272, E_X12_undo_273, E_X12_undo_276, E_X12_undo_277, E_X12_undo_278, E_X12_undo_281, E_X12_undo_282, E_X12_undo_283, E_X12_undo_284, E_X12_undo_285, E_X12_undo_288, E_X12_undo_289, E_X12_undo_290, E_X12_undo_293, E_X12_undo_294, E_X12_undo_295, E_X12_undo_296, E_X12_undo_297, E_X12_undo_300, E_X12_undo_301, E_X12_undo_302, E_X12_undo_305, E_X12_undo_306, E_X12_undo_307, E_X12_undo_308, E_X12_undo_311, E_X12_undo_314, E_X12_undo_315, E_X12_undo_317, E_X12_undo_319, E_X12_undo_322, E_X12_undo_323, E_X12_undo_326, E_X12_undo_327, E_X12_undo_328, E_X12_undo_331, E_X12_undo_332, E_X12_undo_333, E_X12_undo_334, E_X12_undo_335, E_X12_undo_338, E_X12_undo_339, E_X12_undo_340, E_X12_undo_343, E_X12_undo_344, E_X12_undo_345, E_X12_undo_346, E_X12_undo_349, E_X12_undo_352, E_X12_undo_353, E_X12_undo_356, rk_137, rg_137_44, rg_137_69, ra_183, rv_183, ra_166, rs_166, rg_137_45, rg_137_70, ra_184, rv_184, ra_167, rs_167, i1, i2, hge, gsi_1, Nat.reduceEqDiff, false_and, gnk_i, gnk_r, gnk_n, gi_1, Nat.reduceLT, if_true, if_false]
    refine hi2 _ (by omega) (gCw_i2 (gCw_i1 (a := 167) (gCw_i1 (a := 166) (gCw_i0 hC) (gCw_at hC (fun q => absurd q.2 (Nat.lt_irrefl i)))) (gCw_at hC (fun q => absurd q.2 (Nat.lt_irrefl i)))))
end
