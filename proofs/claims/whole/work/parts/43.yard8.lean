/-! a yard copied from another -/
def gZ (y z : Nat) : Prop := gy_is y ∧ gy_is z ∧ y ≠ z
theorem gZ_ne {y z a b : Nat} (h : gZ y z) (ha : a < 18) (hb : b < 18) : z + a ≠ y + b := by
  obtain ⟨h1, h2, h3⟩ := h
  unfold gy_is at h1 h2
  omega
theorem gZ_1 {y z b : Nat} (h : gZ y z) (hb : b < 18) : (z = y + b) = False := eq_false (gZ_ne (a := 0) h (by decide) hb)
theorem gZ_0 {y z : Nat} (h : gZ y z) : (z = y) = False := eq_false (fun e => h.2.2 e.symm)
theorem gsa_1 {s : gm_S} {a b j : Nat} {f : Nat → Int32} : (gm_sa s a f).1 b j = if b = a then f j else s.1 b j := by
  unfold gm_sa
  by_cases e : b = a
  · simp only [e, if_true]
  · simp only [e, if_false]
theorem gsa_2 {s : gm_S} {a : Nat} {f : Nat → Int32} : (gm_sa s a f).2 = s.2 := rfl
theorem gsr_1 {s : gm_S} {a k : Nat} {r : Option Nat} : (gm_sr s a k r).1 = s.1 := rfl
theorem gsr_2 {s : gm_S} {a k b j : Nat} {r : Option Nat} : (gm_sr s a k r).2.1 b j = if b = a ∧ j = k then r else s.2.1 b j := rfl
/-- copying n numbers from z+o to y+o -/
theorem yc_ok {s : gm_S} {y z k : Nat} {n : Int32} (h : gZ y z) (hk : k ∈ [0, 1, 2, 3, 5, 6, 7, 8, 9, 10, 11, 12, 13, 14, 15, 16]) (hn : ¬ n < 0 ∧ n.toNatClampNeg ≤ gy_len k) : gm_cio (gm_m s) (z + (k + 1)) 0 (y + (k + 1)) 0 n := by
  rw [gm_m_cio (gy_arr h.2.1 hk).1 (gy_arr h.1 hk).1 (gy_arr h.2.1 hk).2 (gy_arr h.1 hk).2]
  have e0 : (0 : Int32).toNatClampNeg = 0 := rfl
  exact ⟨by decide, by decide, hn.1, by rw [e0]; omega, by rw [e0]; omega⟩
theorem yc_ci {s : gm_S} {y z k sp dp n : Nat} (h : gZ y z) (hk : k ∈ [0, 1, 2, 3, 5, 6, 7, 8, 9, 10, 11, 12, 13, 14, 15, 16]) : gm_ci (gm_m s) (z + (k + 1)) sp (y + (k + 1)) dp n = gm_m (gm_sa s (y + (k + 1)) (va_cpy (s.1 (z + (k + 1))) (s.1 (y + (k + 1))) sp dp n)) := gm_m_ci (gy_arr h.2.1 hk).1 (gy_arr h.1 hk).1 (gy_arr h.2.1 hk).2 (gy_arr h.1 hk).2
theorem yc_row {s : gm_S} {y z c : Nat} (h : gZ y z) (hc : c < 6) : gm_cio (gm_m s) (z + 6 + c) 0 (y + 6 + c) 0 4 := by
  rw [gm_m_cio (yr_sh h.2.1 hc).1 (yr_sh h.1 hc).1 (yr_sh h.2.1 hc).2 (yr_sh h.1 hc).2]
  decide
theorem yc_rci {s : gm_S} {y z c sp dp n : Nat} (h : gZ y z) (hc : c < 6) : gm_ci (gm_m s) (z + 6 + c) sp (y + 6 + c) dp n = gm_m (gm_sa s (y + 6 + c) (va_cpy (s.1 (z + 6 + c)) (s.1 (y + 6 + c)) sp dp n)) := gm_m_ci (yr_sh h.2.1 hc).1 (yr_sh h.1 hc).1 (yr_sh h.2.1 hc).2 (yr_sh h.1 hc).2
/-- of yard y, memory s holds what s0 holds of yard z, at the places D; all but yard y is as in s0 -/
def gC (s0 s : gm_S) (y z : Nat) (D : Nat → Nat → Prop) : Prop := s.2.2 = s0.2.2 ∧ (∀ b k, b ≠ y → s.2.1 b k = s0.2.1 b k) ∧ (∀ b j, b < y ∨ y + 17 < b → s.1 b j = s0.1 b j) ∧ ∀ o j, o < 18 → D o j → s.1 (y + o) j = s0.1 (z + o) j
theorem gC_z {s0 s : gm_S} {y z o j : Nat} {D : Nat → Nat → Prop} (h : gC s0 s y z D) (hz : gZ y z) (ho : o < 18) : s.1 (z + o) j = s0.1 (z + o) j := by
  refine h.2.2.1 _ _ ?_
  obtain ⟨h1, h2, h3⟩ := hz
  unfold gy_is at h1 h2
  omega
theorem gC_0 {s0 : gm_S} {y z : Nat} : gC s0 s0 y z (fun _ _ => False) := ⟨rfl, fun _ _ _ => rfl, fun _ _ _ => rfl, fun _ _ _ h => h.elim⟩
theorem gC_sr {s0 s : gm_S} {y z k : Nat} {r : Option Nat} {D : Nat → Nat → Prop} (h : gC s0 s y z D) : gC s0 (gm_sr s y k r) y z D := by
  refine ⟨h.1, fun b j hb => ?_, h.2.2.1, h.2.2.2⟩
  rw [gsr_2, if_neg (fun e => hb e.1)]
  exact h.2.1 b j hb
theorem gC_si {s0 s : gm_S} {y z k : Nat} {x : Int32} {D : Nat → Nat → Prop} (h : gC s0 s y z D) (hx : x = s0.1 z k) : gC s0 (gm_si s y k x) y z (fun a b => D a b ∨ a = 0 ∧ b = k) := by
  refine ⟨h.1, h.2.1, fun b j hb => ?_, fun a b ha hd => ?_⟩
  · rw [gsi_1, if_neg (fun e => by omega)]
    exact h.2.2.1 b j hb
  · rw [gsi_1]
    by_cases e : y + a = y ∧ b = k
    · rw [if_pos e, hx, e.2]
      have : a = 0 := by omega
      rw [this]
      rfl
    · rw [if_neg e]
      rcases hd with hd | hd
      · exact h.2.2.2 a b ha hd
      · exact absurd ⟨by omega, hd.2⟩ e
theorem gC_sa {s0 s : gm_S} {y z o n : Nat} {D : Nat → Nat → Prop} (h : gC s0 s y z D) (hz : gZ y z) (ho : o < 18) : gC s0 (gm_sa s (y + o) (va_cpy (s.1 (z + o)) (s.1 (y + o)) 0 0 n)) y z (fun a b => D a b ∨ a = o ∧ b < n) := by
  refine ⟨h.1, h.2.1, fun b j hb => ?_, fun a b ha hd => ?_⟩
  · rw [gsa_1, if_neg (fun e => by omega)]
    exact h.2.2.1 b j hb
  · rw [gsa_1]
    by_cases e : y + a = y + o
    · have e' : a = o := by omega
      rw [if_pos e]
      subst e'
      unfold va_cpy
      by_cases hb : b < n
      · rw [if_pos (by omega), show 0 + (b - 0) = b by omega]
        exact gC_z h hz ho
      · rw [if_neg (by omega)]
        rcases hd with hd | hd
        · exact h.2.2.2 a b ha hd
        · exact absurd hd.2 hb
    · rw [if_neg e]
      rcases hd with hd | hd
      · exact h.2.2.2 a b ha hd
      · exact absurd hd.1 (by omega)
/-- a yard copied is that yard -/
theorem gC_R {s0 s : gm_S} {y z f m : Nat} {p : gA} {D : Nat → Nat → Prop} (hR : gR s0 z f m p) (hz : gZ y z) (h : gC s0 s y z D) (hk : gA_ok p) (h1 : s.2.1 y 1 = some f) (d2 : D 0 2) (d4 : D 0 4) (d9 : D 0 9) (hD : ∀ o j, gA_in p o j → D o j) : gR s y f m p := by
  have hk1 := hk.1
  obtain ⟨hy, hf, h1', ho', h2, h4, h9, hA, hb, hh, hs⟩ := hR
  have hl := gF_yard hf hz.1
  have hc : ∀ k j, k < 4 → s.1 (f + k) j = s0.1 (f + k) j := fun k j hk => h.2.2.1 _ _ (by omega)
  have e2 : s.1 y 2 = s0.1 z 2 := h.2.2.2 0 2 (by decide) d2
  have e4 : s.1 y 4 = s0.1 z 4 := h.2.2.2 0 4 (by decide) d4
  have e9 : s.1 y 9 = s0.1 z 9 := h.2.2.2 0 9 (by decide) d9
  refine ⟨hz.1, hf, h1, ⟨(hc 0 5 (by decide)).trans ho'.1, ho'.2.1, fun i hi => ?_⟩, e2.trans h2, e4.trans h4, e9.trans h9, fun o j hj => ?_, (hc 0 0 (by decide)).trans hb, (hc 0 1 (by decide)).trans hh, fun fx => ?_⟩
  · rw [hc 2 i (by decide)]
    exact ho'.2.2 i hi
  · exact (h.2.2.2 o j (by unfold gA_in at hj; omega) (hD o j hj)).trans (hA o j hj)
  · rw [gF_sum_cg (s := s0) (fx := fx) ho' (fun k i hk => hc (k + 1) i (by omega)) (fun _ _ => rfl)]
    exact hs fx
