/-! reading a yard: 83 (now), 101 (trial), 119 (image) -/
def gy_is (y : Nat) : Prop := y = 83 ∨ y = 101 ∨ y = 119
theorem gy_gv {s : gm_S} {y : Nat} (h : gy_is y) : gm_gv (gm_m s) y 0 = .ref 64 ∧ gm_gv (gm_m s) y 1 = va_rf (s.2.1 y 1) ∧ gm_gv (gm_m s) y 2 = .int (s.1 y 2) ∧ gm_gv (gm_m s) y 3 = .ref (y + 1) ∧ gm_gv (gm_m s) y 4 = .int (s.1 y 4) ∧ gm_gv (gm_m s) y 5 = .ref (y + 2) ∧ gm_gv (gm_m s) y 6 = .ref (y + 3) ∧ gm_gv (gm_m s) y 7 = .ref (y + 4) ∧ gm_gv (gm_m s) y 8 = .ref (y + 5) ∧ gm_gv (gm_m s) y 9 = .int (s.1 y 9) ∧ gm_gv (gm_m s) y 10 = .ref (y + 12) ∧ gm_gv (gm_m s) y 11 = .ref (y + 13) ∧ gm_gv (gm_m s) y 12 = .ref (y + 14) ∧ gm_gv (gm_m s) y 13 = .ref (y + 15) ∧ gm_gv (gm_m s) y 14 = .ref (y + 16) ∧ gm_gv (gm_m s) y 15 = .ref (y + 17) := by
  rcases h with rfl | rfl | rfl <;> exact ⟨rfl, rfl, rfl, rfl, rfl, rfl, rfl, rfl, rfl, rfl, rfl, rfl, rfl, rfl, rfl, rfl⟩
theorem gy_gok {s : gm_S} {y k : Nat} (h : gy_is y) (hk : k < 16) : gm_gok (gm_m s) [10] y k = true := by
  rcases h with rfl | rfl | rfl
  · exact gm_m_gok (ci := 10) (by decide) rfl hk rfl
  · exact gm_m_gok (ci := 10) (by decide) rfl hk rfl
  · exact gm_m_gok (ci := 10) (by decide) rfl hk rfl
theorem gy_cl {s : gm_S} {y : Nat} (h : gy_is y) : gm_cl (gm_m s) y 10 = true := by
  rcases h with rfl | rfl | rfl <;> rfl
def gy_len (k : Nat) : Nat := [4, 6, 6, 6, 0, 4, 4, 4, 4, 4, 4, 8, 8, 8, 8, 8, 6].getD k 0
theorem gy_arr {y k : Nat} (h : gy_is y) (hk : k ∈ [0, 1, 2, 3, 5, 6, 7, 8, 9, 10, 11, 12, 13, 14, 15, 16]) : y + (k + 1) < 192 ∧ gm_sh (y + (k + 1)) = (0, gy_len k, []) := by
  rcases h with rfl | rfl | rfl <;> (simp only [List.mem_cons, List.not_mem_nil, or_false] at hk; rcases hk with rfl | rfl | rfl | rfl | rfl | rfl | rfl | rfl | rfl | rfl | rfl | rfl | rfl | rfl | rfl | rfl <;> exact ⟨by decide, rfl⟩)
theorem gy_ai {s : gm_S} {y k : Nat} {i : Int32} (h : gy_is y) (hk : k ∈ [0, 1, 2, 3, 5, 6, 7, 8, 9, 10, 11, 12, 13, 14, 15, 16]) : gm_ai (gm_m s) 0 (y + (k + 1)) i = vp_in i (gy_len k) := gm_m_ai (gy_arr h hk).1 (gy_arr h hk).2 (Or.inl rfl)
theorem gy_av {s : gm_S} {y k j : Nat} (h : gy_is y) (hk : k ∈ [0, 1, 2, 3, 5, 6, 7, 8, 9, 10, 11, 12, 13, 14, 15, 16]) : gm_av (gm_m s) (y + (k + 1)) j = s.1 (y + (k + 1)) j := gm_m_av (gy_arr h hk).1 (gy_arr h hk).2 (Or.inl rfl)
theorem gy_as {s : gm_S} {y k j : Nat} {x : Int32} (h : gy_is y) (hk : k ∈ [0, 1, 2, 3, 5, 6, 7, 8, 9, 10, 11, 12, 13, 14, 15, 16]) : gm_as (gm_m s) (y + (k + 1)) j x = gm_m (gm_si s (y + (k + 1)) j x) := gm_m_as (gy_arr h hk).1 (gy_arr h hk).2 (Or.inl rfl)
theorem ya_1 {s : gm_S} {y : Nat} {i : Int32} (h : gy_is y) : gm_ai (gm_m s) 0 (y + 1) i = vp_in i 4 := gy_ai (k := 0) h (by decide)
theorem yv_1 {s : gm_S} {y j : Nat} (h : gy_is y) : gm_av (gm_m s) (y + 1) j = s.1 (y + 1) j := gy_av (k := 0) h (by decide)
theorem ys_1 {s : gm_S} {y j : Nat} {x : Int32} (h : gy_is y) : gm_as (gm_m s) (y + 1) j x = gm_m (gm_si s (y + 1) j x) := gy_as (k := 0) h (by decide)
theorem ya_2 {s : gm_S} {y : Nat} {i : Int32} (h : gy_is y) : gm_ai (gm_m s) 0 (y + 2) i = vp_in i 6 := gy_ai (k := 1) h (by decide)
theorem yv_2 {s : gm_S} {y j : Nat} (h : gy_is y) : gm_av (gm_m s) (y + 2) j = s.1 (y + 2) j := gy_av (k := 1) h (by decide)
theorem ys_2 {s : gm_S} {y j : Nat} {x : Int32} (h : gy_is y) : gm_as (gm_m s) (y + 2) j x = gm_m (gm_si s (y + 2) j x) := gy_as (k := 1) h (by decide)
theorem ya_3 {s : gm_S} {y : Nat} {i : Int32} (h : gy_is y) : gm_ai (gm_m s) 0 (y + 3) i = vp_in i 6 := gy_ai (k := 2) h (by decide)
theorem yv_3 {s : gm_S} {y j : Nat} (h : gy_is y) : gm_av (gm_m s) (y + 3) j = s.1 (y + 3) j := gy_av (k := 2) h (by decide)
theorem ys_3 {s : gm_S} {y j : Nat} {x : Int32} (h : gy_is y) : gm_as (gm_m s) (y + 3) j x = gm_m (gm_si s (y + 3) j x) := gy_as (k := 2) h (by decide)
theorem ya_4 {s : gm_S} {y : Nat} {i : Int32} (h : gy_is y) : gm_ai (gm_m s) 0 (y + 4) i = vp_in i 6 := gy_ai (k := 3) h (by decide)
theorem yv_4 {s : gm_S} {y j : Nat} (h : gy_is y) : gm_av (gm_m s) (y + 4) j = s.1 (y + 4) j := gy_av (k := 3) h (by decide)
theorem ys_4 {s : gm_S} {y j : Nat} {x : Int32} (h : gy_is y) : gm_as (gm_m s) (y + 4) j x = gm_m (gm_si s (y + 4) j x) := gy_as (k := 3) h (by decide)
theorem ya_6 {s : gm_S} {y : Nat} {i : Int32} (h : gy_is y) : gm_ai (gm_m s) 0 (y + 6) i = vp_in i 4 := gy_ai (k := 5) h (by decide)
theorem yv_6 {s : gm_S} {y j : Nat} (h : gy_is y) : gm_av (gm_m s) (y + 6) j = s.1 (y + 6) j := gy_av (k := 5) h (by decide)
theorem ys_6 {s : gm_S} {y j : Nat} {x : Int32} (h : gy_is y) : gm_as (gm_m s) (y + 6) j x = gm_m (gm_si s (y + 6) j x) := gy_as (k := 5) h (by decide)
theorem ya_7 {s : gm_S} {y : Nat} {i : Int32} (h : gy_is y) : gm_ai (gm_m s) 0 (y + 7) i = vp_in i 4 := gy_ai (k := 6) h (by decide)
theorem yv_7 {s : gm_S} {y j : Nat} (h : gy_is y) : gm_av (gm_m s) (y + 7) j = s.1 (y + 7) j := gy_av (k := 6) h (by decide)
theorem ys_7 {s : gm_S} {y j : Nat} {x : Int32} (h : gy_is y) : gm_as (gm_m s) (y + 7) j x = gm_m (gm_si s (y + 7) j x) := gy_as (k := 6) h (by decide)
theorem ya_8 {s : gm_S} {y : Nat} {i : Int32} (h : gy_is y) : gm_ai (gm_m s) 0 (y + 8) i = vp_in i 4 := gy_ai (k := 7) h (by decide)
theorem yv_8 {s : gm_S} {y j : Nat} (h : gy_is y) : gm_av (gm_m s) (y + 8) j = s.1 (y + 8) j := gy_av (k := 7) h (by decide)
theorem ys_8 {s : gm_S} {y j : Nat} {x : Int32} (h : gy_is y) : gm_as (gm_m s) (y + 8) j x = gm_m (gm_si s (y + 8) j x) := gy_as (k := 7) h (by decide)
theorem ya_9 {s : gm_S} {y : Nat} {i : Int32} (h : gy_is y) : gm_ai (gm_m s) 0 (y + 9) i = vp_in i 4 := gy_ai (k := 8) h (by decide)
theorem yv_9 {s : gm_S} {y j : Nat} (h : gy_is y) : gm_av (gm_m s) (y + 9) j = s.1 (y + 9) j := gy_av (k := 8) h (by decide)
theorem ys_9 {s : gm_S} {y j : Nat} {x : Int32} (h : gy_is y) : gm_as (gm_m s) (y + 9) j x = gm_m (gm_si s (y + 9) j x) := gy_as (k := 8) h (by decide)
theorem ya_10 {s : gm_S} {y : Nat} {i : Int32} (h : gy_is y) : gm_ai (gm_m s) 0 (y + 10) i = vp_in i 4 := gy_ai (k := 9) h (by decide)
theorem yv_10 {s : gm_S} {y j : Nat} (h : gy_is y) : gm_av (gm_m s) (y + 10) j = s.1 (y + 10) j := gy_av (k := 9) h (by decide)
theorem ys_10 {s : gm_S} {y j : Nat} {x : Int32} (h : gy_is y) : gm_as (gm_m s) (y + 10) j x = gm_m (gm_si s (y + 10) j x) := gy_as (k := 9) h (by decide)
theorem ya_11 {s : gm_S} {y : Nat} {i : Int32} (h : gy_is y) : gm_ai (gm_m s) 0 (y + 11) i = vp_in i 4 := gy_ai (k := 10) h (by decide)
theorem yv_11 {s : gm_S} {y j : Nat} (h : gy_is y) : gm_av (gm_m s) (y + 11) j = s.1 (y + 11) j := gy_av (k := 10) h (by decide)
theorem ys_11 {s : gm_S} {y j : Nat} {x : Int32} (h : gy_is y) : gm_as (gm_m s) (y + 11) j x = gm_m (gm_si s (y + 11) j x) := gy_as (k := 10) h (by decide)
theorem ya_12 {s : gm_S} {y : Nat} {i : Int32} (h : gy_is y) : gm_ai (gm_m s) 0 (y + 12) i = vp_in i 8 := gy_ai (k := 11) h (by decide)
theorem yv_12 {s : gm_S} {y j : Nat} (h : gy_is y) : gm_av (gm_m s) (y + 12) j = s.1 (y + 12) j := gy_av (k := 11) h (by decide)
theorem ys_12 {s : gm_S} {y j : Nat} {x : Int32} (h : gy_is y) : gm_as (gm_m s) (y + 12) j x = gm_m (gm_si s (y + 12) j x) := gy_as (k := 11) h (by decide)
theorem ya_13 {s : gm_S} {y : Nat} {i : Int32} (h : gy_is y) : gm_ai (gm_m s) 0 (y + 13) i = vp_in i 8 := gy_ai (k := 12) h (by decide)
theorem yv_13 {s : gm_S} {y j : Nat} (h : gy_is y) : gm_av (gm_m s) (y + 13) j = s.1 (y + 13) j := gy_av (k := 12) h (by decide)
theorem ys_13 {s : gm_S} {y j : Nat} {x : Int32} (h : gy_is y) : gm_as (gm_m s) (y + 13) j x = gm_m (gm_si s (y + 13) j x) := gy_as (k := 12) h (by decide)
theorem ya_14 {s : gm_S} {y : Nat} {i : Int32} (h : gy_is y) : gm_ai (gm_m s) 0 (y + 14) i = vp_in i 8 := gy_ai (k := 13) h (by decide)
theorem yv_14 {s : gm_S} {y j : Nat} (h : gy_is y) : gm_av (gm_m s) (y + 14) j = s.1 (y + 14) j := gy_av (k := 13) h (by decide)
theorem ys_14 {s : gm_S} {y j : Nat} {x : Int32} (h : gy_is y) : gm_as (gm_m s) (y + 14) j x = gm_m (gm_si s (y + 14) j x) := gy_as (k := 13) h (by decide)
theorem ya_15 {s : gm_S} {y : Nat} {i : Int32} (h : gy_is y) : gm_ai (gm_m s) 0 (y + 15) i = vp_in i 8 := gy_ai (k := 14) h (by decide)
theorem yv_15 {s : gm_S} {y j : Nat} (h : gy_is y) : gm_av (gm_m s) (y + 15) j = s.1 (y + 15) j := gy_av (k := 14) h (by decide)
theorem ys_15 {s : gm_S} {y j : Nat} {x : Int32} (h : gy_is y) : gm_as (gm_m s) (y + 15) j x = gm_m (gm_si s (y + 15) j x) := gy_as (k := 14) h (by decide)
theorem ya_16 {s : gm_S} {y : Nat} {i : Int32} (h : gy_is y) : gm_ai (gm_m s) 0 (y + 16) i = vp_in i 8 := gy_ai (k := 15) h (by decide)
theorem yv_16 {s : gm_S} {y j : Nat} (h : gy_is y) : gm_av (gm_m s) (y + 16) j = s.1 (y + 16) j := gy_av (k := 15) h (by decide)
theorem ys_16 {s : gm_S} {y j : Nat} {x : Int32} (h : gy_is y) : gm_as (gm_m s) (y + 16) j x = gm_m (gm_si s (y + 16) j x) := gy_as (k := 15) h (by decide)
theorem ya_17 {s : gm_S} {y : Nat} {i : Int32} (h : gy_is y) : gm_ai (gm_m s) 0 (y + 17) i = vp_in i 6 := gy_ai (k := 16) h (by decide)
theorem yv_17 {s : gm_S} {y j : Nat} (h : gy_is y) : gm_av (gm_m s) (y + 17) j = s.1 (y + 17) j := gy_av (k := 16) h (by decide)
theorem ys_17 {s : gm_S} {y j : Nat} {x : Int32} (h : gy_is y) : gm_as (gm_m s) (y + 17) j x = gm_m (gm_si s (y + 17) j x) := gy_as (k := 16) h (by decide)
theorem yg_0 {s : gm_S} {y : Nat} (h : gy_is y) : gm_gv (gm_m s) y 0 = .ref 64 := (gy_gv h).1
theorem yg_1 {s : gm_S} {y : Nat} (h : gy_is y) : gm_gv (gm_m s) y 1 = va_rf (s.2.1 y 1) := (gy_gv h).2.1
theorem yg_2 {s : gm_S} {y : Nat} (h : gy_is y) : gm_gv (gm_m s) y 2 = .int (s.1 y 2) := (gy_gv h).2.2.1
theorem yg_3 {s : gm_S} {y : Nat} (h : gy_is y) : gm_gv (gm_m s) y 3 = .ref (y + 1) := (gy_gv h).2.2.2.1
theorem yg_4 {s : gm_S} {y : Nat} (h : gy_is y) : gm_gv (gm_m s) y 4 = .int (s.1 y 4) := (gy_gv h).2.2.2.2.1
theorem yg_5 {s : gm_S} {y : Nat} (h : gy_is y) : gm_gv (gm_m s) y 5 = .ref (y + 2) := (gy_gv h).2.2.2.2.2.1
theorem yg_6 {s : gm_S} {y : Nat} (h : gy_is y) : gm_gv (gm_m s) y 6 = .ref (y + 3) := (gy_gv h).2.2.2.2.2.2.1
theorem yg_7 {s : gm_S} {y : Nat} (h : gy_is y) : gm_gv (gm_m s) y 7 = .ref (y + 4) := (gy_gv h).2.2.2.2.2.2.2.1
theorem yg_8 {s : gm_S} {y : Nat} (h : gy_is y) : gm_gv (gm_m s) y 8 = .ref (y + 5) := (gy_gv h).2.2.2.2.2.2.2.2.1
theorem yg_9 {s : gm_S} {y : Nat} (h : gy_is y) : gm_gv (gm_m s) y 9 = .int (s.1 y 9) := (gy_gv h).2.2.2.2.2.2.2.2.2.1
theorem yg_10 {s : gm_S} {y : Nat} (h : gy_is y) : gm_gv (gm_m s) y 10 = .ref (y + 12) := (gy_gv h).2.2.2.2.2.2.2.2.2.2.1
theorem yg_11 {s : gm_S} {y : Nat} (h : gy_is y) : gm_gv (gm_m s) y 11 = .ref (y + 13) := (gy_gv h).2.2.2.2.2.2.2.2.2.2.2.1
theorem yg_12 {s : gm_S} {y : Nat} (h : gy_is y) : gm_gv (gm_m s) y 12 = .ref (y + 14) := (gy_gv h).2.2.2.2.2.2.2.2.2.2.2.2.1
theorem yg_13 {s : gm_S} {y : Nat} (h : gy_is y) : gm_gv (gm_m s) y 13 = .ref (y + 15) := (gy_gv h).2.2.2.2.2.2.2.2.2.2.2.2.2.1
theorem yg_14 {s : gm_S} {y : Nat} (h : gy_is y) : gm_gv (gm_m s) y 14 = .ref (y + 16) := (gy_gv h).2.2.2.2.2.2.2.2.2.2.2.2.2.2.1
theorem yg_15 {s : gm_S} {y : Nat} (h : gy_is y) : gm_gv (gm_m s) y 15 = .ref (y + 17) := (gy_gv h).2.2.2.2.2.2.2.2.2.2.2.2.2.2.2
theorem yp_2 {s : gm_S} {y : Nat} {x : Int32} (h : gy_is y) : gm_ps (gm_m s) y 2 (.int x) = gm_m (gm_si s y 2 x) := by
  rcases h with rfl | rfl | rfl <;> exact gm_m_psi (ci := 10) (by decide) rfl rfl
theorem yp_4 {s : gm_S} {y : Nat} {x : Int32} (h : gy_is y) : gm_ps (gm_m s) y 4 (.int x) = gm_m (gm_si s y 4 x) := by
  rcases h with rfl | rfl | rfl <;> exact gm_m_psi (ci := 10) (by decide) rfl rfl
theorem yp_9 {s : gm_S} {y : Nat} {x : Int32} (h : gy_is y) : gm_ps (gm_m s) y 9 (.int x) = gm_m (gm_si s y 9 x) := by
  rcases h with rfl | rfl | rfl <;> exact gm_m_psi (ci := 10) (by decide) rfl rfl
theorem yp_1 {s : gm_S} {y r : Nat} (h : gy_is y) : gm_ps (gm_m s) y 1 (.ref r) = gm_m (gm_sr s y 1 (some r)) := by
  rcases h with rfl | rfl | rfl <;> exact gm_m_psr (ci := 10) (by decide) rfl rfl
theorem gnk_i {x : Int32} : gm_nk (some (.int x)) = true := Eq.trans rfl rfl
theorem gnk_l {x : Int64} : gm_nk (some (.long x)) = false := Eq.trans rfl rfl
theorem gnk_r {x : Nat} : gm_nk (some (.ref x)) = true := Eq.trans rfl rfl
theorem gnk_n : gm_nk none = true := Eq.trans rfl rfl
theorem gi_1 : Int32.ofInt 1 = 1 := rfl
theorem gcat_i {x : Int32} : (Value.int x).category = 1 := Eq.trans rfl rfl
theorem gcat_r {x : Nat} : (Value.ref x).category = 1 := Eq.trans rfl rfl
theorem gcat_l {x : Int64} : (Value.long x).category = 2 := Eq.trans rfl rfl
/-- the first of n things from t on that f holds of -/
def gp_first (f : Nat → Bool) : Nat → Nat → Option Nat
  | 0, _ => none
  | n + 1, t => if f t then some t else gp_first f n (t + 1)
def gp_i (r : Option Nat) (e : Int32) : Int32 := match r with
  | some t => nI t
  | none => e
theorem gp_first_lt {f : Nat → Bool} : ∀ {n t r : Nat}, gp_first f n t = some r → t ≤ r ∧ r < t + n ∧ f r = true
  | 0, t, r, h => by simp [gp_first] at h
  | n + 1, t, r, h => by
    unfold gp_first at h
    split at h
    · cases h
      rename_i hf
      exact ⟨Nat.le_refl _, by omega, hf⟩
    · obtain ⟨a, b, c⟩ := gp_first_lt h
      exact ⟨by omega, by omega, c⟩
/-- Yard.hungBy -/
def gy_hung (s : gm_S) (y : Nat) (c : Int32) : Nat → Bool := fun t => decide (s.1 (y + 14) t = 1) && decide (s.1 (y + 13) t = c)
theorem gy_hungBy_loop {w : Nat × (Nat → Int32)} {d y : Nat} {s : gm_S} {c : Int32} {nt : Nat} {Q : Option Value → gc_M → Prop} (hy : gy_is y) (hn : s.1 y 9 = nI nt) (h8 : nt ≤ 8) : ∀ (n t : Nat), t + n = nt → gc_X w d 60 2 [some (.ref y), some (.int c), some (.int (nI t))] [] (gm_m s) Q = Q (some (.int (gp_i (gp_first (gy_hung s y c) n t) (-1)))) (gm_m s) := by
  intro n
  induction n with
  | zero =>
    intro t ht
    have e : t = nt := by omega
    subst e
    rw [E_X10_hungBy_2]
    simp only [E_X10_hungBy_0, E_X10_hungBy_1, E_X10_hungBy_3, E_X10_hungBy_4, E_X10_hungBy_7, E_X10_hungBy_10, E_X10_hungBy_11, E_X10_hungBy_14, E_X10_hungBy_15, E_X10_hungBy_16, E_X10_hungBy_17, E_X10_hungBy_20, E_X10_hungBy_21, E_X10_hungBy_24, E_X10_hungBy_25, E_X10_hungBy_26, E_X10_hungBy_27, E_X10_hungBy_30, E_X10_hungBy_31, E_X10_hungBy_32, E_X10_hungBy_35, E_X10_hungBy_38, E_X10_hungBy_39, gy_gok hy, (gy_gv hy).2.2.2.2.2.2.2.2.2.1, hn, nI_le (Nat.le_refl t) (by omega : t < 2 ^ 31), if_true, gp_first, gp_i, Nat.reduceLT]
  | succ n ih =>
    intro t ht
    have hlt : t < nt := by omega
    have hin : vp_in (nI t) 8 := vp_in_nI (by omega) (by omega)
    have hc : (nI t).toNatClampNeg = t := nI_clamp (by omega)
    have hge : ¬ nI nt ≤ nI t := nI_ge hlt (by omega)
    have hi := ih (t + 1) (by omega)
    rw [nI_succ] at hi
    rw [E_X10_hungBy_2]
    by_cases hA : s.1 (y + 14) t = 1 <;> by_cases hB : s.1 (y + 13) t = c <;>
      (simp only [E_X10_hungBy_0, E_X10_hungBy_1, E_X10_hungBy_3, E_X10_hungBy_4, E_X10_hungBy_7, E_X10_hungBy_10, E_X10_hungBy_11, E_X10_hungBy_14, E_X10_hungBy_15, E_X10_hungBy_16, E_X10_hungBy_17, E_X10_hungBy_20, E_X10_hungBy_21, E_X10_hungBy_24, E_X10_hungBy_25, E_X10_hungBy_26, E_X10_hungBy_27, E_X10_hungBy_30, E_X10_hungBy_31, E_X10_hungBy_32, E_X10_hungBy_35, E_X10_hungBy_38, E_X10_hungBy_39, gy_gok hy, yg_9 hy, yg_12 hy, yg_11 hy, hn, hge, if_false, if_true, hA, hB, Nat.reduceLT, ya_14 hy, yv_14 hy, ya_13 hy, yv_13 hy, hin, hc, gnk_i, gi_1, hi]; try simp [gp_first, gy_hung, hA, hB, gp_i])
theorem gy_hungBy {w : Nat × (Nat → Int32)} {d y : Nat} {s : gm_S} {c : Int32} {nt : Nat} {Q : Option Value → gc_M → Prop} (hy : gy_is y) (hn : s.1 y 9 = nI nt) (h8 : nt ≤ 8) : gc_X w d 60 0 [some (.ref y), some (.int c), none] [] (gm_m s) Q = Q (some (.int (gp_i (gp_first (gy_hung s y c) nt 0) (-1)))) (gm_m s) := by
  have h := gy_hungBy_loop (w := w) (d := d) (c := c) (Q := Q) hy hn h8 nt 0 (Nat.zero_add nt)
  rw [nI_0] at h
  simp only [E_X10_hungBy_0, E_X10_hungBy_1, gnk_i]
  exact h
