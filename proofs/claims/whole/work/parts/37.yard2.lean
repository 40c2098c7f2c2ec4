/-! the hours of a yard -/
def gA_set (p : gA) (o j : Nat) (x : Int32) : gA := (p.1, fun a b => if a = o ∧ b = j then x else p.2.1 a b, p.2.2)
theorem gA_set_n {p : gA} {o j : Nat} {x : Int32} : (gA_set p o j x).1 = p.1 := rfl
theorem gA_set_in {p : gA} {o j a b : Nat} {x : Int32} : gA_in (gA_set p o j x) a b = gA_in p a b := rfl
theorem gA_set_at {p : gA} {o j a b : Nat} {x : Int32} : (gA_set p o j x).2.1 a b = if a = o ∧ b = j then x else p.2.1 a b := rfl
/-- all but yard y stays -/
def gy_FR (y : Nat) (s s' : gm_S) : Prop := s'.2 = s.2 ∧ ∀ b j, b < y ∨ y + 17 < b → s'.1 b j = s.1 b j
theorem gy_FR_refl {y : Nat} {s : gm_S} : gy_FR y s s := ⟨rfl, fun _ _ _ => rfl⟩
theorem gy_FR_trans {y : Nat} {s s' s2 : gm_S} (h : gy_FR y s s') (h2 : gy_FR y s' s2) : gy_FR y s s2 := ⟨h2.1.trans h.1, fun b j hb => (h2.2 b j hb).trans (h.2 b j hb)⟩
theorem gy_FR_fr {y : Nat} {s s' : gm_S} (h : gy_fr y s s') : gy_FR y s s' := ⟨h.1, fun b j hb => h.2 b j (by omega)⟩
theorem gy_FR_si {y o k : Nat} {s s' : gm_S} {x : Int32} (h : gy_FR y s s') (ho : o < 18) : gy_FR y s (gm_si s' (y + o) k x) := by
  refine ⟨by rw [gsi_2]; exact h.1, fun b j hb => ?_⟩
  rw [gsi_1, if_neg (fun e => by omega)]
  exact h.2 b j hb
/-- a number of the yard written -/
theorem gR_set {s : gm_S} {y f m o j : Nat} {x : Int32} {p : gA} (hR : gR s y f m p) (ho1 : 0 < o) (ho : o < 17) : gR (gm_si s (y + o) j x) y f m (gA_set p o j x) := by
  obtain ⟨hy, hf, h1, ho', h2, h4, h9, hA, hb, hh, hs⟩ := hR
  have hl := gF_yard hf hy
  refine ⟨hy, hf, h1, ⟨?_, ho'.2.1, ?_⟩, ?_, ?_, ?_, ?_, ?_, ?_, ?_⟩
  · rw [gsi_1, if_neg (fun e => by omega)]
    exact ho'.1
  · intro i hi
    rw [gsi_1, if_neg (fun e => by omega)]
    exact ho'.2.2 i hi
  · rw [gsi_1, if_neg (fun e => by omega)]
    exact h2
  · rw [gsi_1, if_neg (fun e => by omega)]
    exact h4
  · rw [gsi_1, if_neg (fun e => by omega)]
    exact h9
  · intro a b hab
    rw [gsi_1, gA_set_at]
    by_cases e : a = o ∧ b = j
    · rw [if_pos e, if_pos ⟨by omega, e.2⟩]
    · rw [if_neg e, if_neg (fun e2 => e ⟨by omega, e2.2⟩)]
      exact hA a b hab
  · rw [gsi_1, if_neg (fun e => by omega), gA_set_at, if_neg (fun e => by omega)]
    exact hb
  · rw [gsi_1, if_neg (fun e => by omega), gA_set_at, if_neg (fun e => by omega)]
    exact hh
  · intro fx
    rw [gF_sum_cg (s := s) (fx := fx) ho' (fun k i hk => by rw [gsi_1, if_neg (fun e => by omega)]) (fun _ _ => rfl)]
    exact hs fx
theorem gA_ok_set {p : gA} {o j : Nat} {x : Int32} (h : gA_ok p) (ho : o ≠ 2) : gA_ok (gA_set p o j x) := by
  refine ⟨h.1, h.2.1, h.2.2.1, fun c hc => ?_⟩
  obtain ⟨k, hk, e⟩ := h.2.2.2 c hc
  refine ⟨k, hk, ?_⟩
  rw [gA_set_at, if_neg (fun e => ho e.1.symm)]
  exact e
/-- a thing put fresh into a state -/
def gA_fresh (p : gA) (t : Nat) (x : Int32) : gA := gA_set (gA_set (gA_set p 14 t x) 15 t 0) 16 t 0
theorem gA_ok_fresh {p : gA} {t : Nat} {x : Int32} (h : gA_ok p) : gA_ok (gA_fresh p t x) := gA_ok_set (gA_ok_set (gA_ok_set h (by decide)) (by decide)) (by decide)
section
variable {w : Nat × (Nat → Int32)} {d y c t f m : Nat} {s : gm_S} {p : gA} {Q : Option Value → gc_M → Prop}
theorem gy_setFresh {x : Int32} (hR : gR s y f m p) (ht : t < 8) (hq : ∀ s', gy_FR y s s' → gR s' y f m (gA_fresh p t x) → Q none (gm_m s')) : gc_X w d 56 0 [some (.ref y), some (.int (nI t)), some (.int x)] [] (gm_m s) Q := by
  have hy := hR.1
  have i1 : vp_in (nI t) 8 := vp_in_nI ht (by omega)
  have i2 : (nI t).toNatClampNeg = t := nI_clamp (by omega)
  simp only [E_X10_setFresh_0, E_X10_setFresh_1, E_X10_setFresh_4, E_X10_setFresh_5, E_X10_setFresh_6, E_X10_setFresh_7, E_X10_setFresh_8, E_X10_setFresh_11, E_X10_setFresh_12, E_X10_setFresh_13, E_X10_setFresh_14, E_X10_setFresh_15, E_X10_setFresh_18, E_X10_setFresh_19, E_X10_setFresh_20, E_X10_setFresh_21, gy_gok hy, yg_12 hy, yg_13 hy, yg_14 hy, ya_14 hy, ys_14 hy, ya_15 hy, ys_15 hy, ya_16 hy, ys_16 hy, i1, i2, Nat.reduceLT]
  exact hq _ (gy_FR_si (gy_FR_si (gy_FR_si gy_FR_refl (by decide)) (by decide)) (by decide)) (gR_set (gR_set (gR_set hR (by decide) (by decide)) (by decide) (by decide)) (by decide) (by decide))
end
/-- the thing that hangs by crane c -/
def gA_hg (p : gA) (c : Nat) : Nat → Bool := fun t => decide (p.2.1 14 t = 1) && decide (p.2.1 13 t = nI c)
def gA_hung (p : gA) (c : Nat) : Option Nat := gp_first (gA_hg p c) p.1.2.2 0
theorem gp_first_cg {f g : Nat → Bool} : ∀ {n t : Nat}, (∀ i, t ≤ i → i < t + n → f i = g i) → gp_first f n t = gp_first g n t
  | 0, _, _ => rfl
  | n + 1, t, h => by
    unfold gp_first
    rw [h t (by omega) (by omega), gp_first_cg (n := n) (t := t + 1) (fun i h1 h2 => h i (by omega) (by omega))]
section
variable {w : Nat × (Nat → Int32)} {d y c t f m : Nat} {s : gm_S} {p : gA} {Q : Option Value → gc_M → Prop}
theorem gR_hung (hR : gR s y f m p) (hk : gA_ok p) : gc_X w d 60 0 [some (.ref y), some (.int (nI c)), none] [] (gm_m s) Q = Q (some (.int (gp_i (gA_hung p c) (-1)))) (gm_m s) := by
  rw [gy_hungBy hR.1 hR.2.2.2.2.2.2.1 hk.2.1]
  have e : gp_first (gy_hung s y (nI c)) p.1.2.2 0 = gA_hung p c := by
    refine gp_first_cg (fun i _ hi => ?_)
    unfold gy_hung gA_hg
    rw [hR.2.2.2.2.2.2.2.1 14 i (Or.inr (Or.inr (Or.inr ⟨by omega, by omega, by omega⟩))), hR.2.2.2.2.2.2.2.1 13 i (Or.inr (Or.inr (Or.inr ⟨by omega, by omega, by omega⟩)))]
  rw [e]
end
/-- the first thing that crane c can hang, hung -/
def gA_hangN (p : gA) (c : Nat) : Nat → Nat → gA
  | 0, _ => p
  | n + 1, t => if p.2.1 14 t = 0 ∧ p.2.1 13 t = nI c ∧ p.2.1 12 t ≤ gA_pow p c t then gA_fresh p t 1 else gA_hangN p c n (t + 1)
def gA_hang (p : gA) (c : Nat) : gA := gA_hangN p c p.1.2.2 0
section
variable {w : Nat × (Nat → Int32)} {d y c t f m : Nat} {p : gA} {Q : Option Value → gc_M → Prop}
theorem gy_hang_loop (hk : gA_ok p) (hc : c < p.1.2.1) : ∀ (n t : Nat) (s : gm_S), t + n = p.1.2.2 → gR s y f m p → (∀ s', gy_FR y s s' → gR s' y f m (gA_hangN p c n t) → Q none (gm_m s')) → gc_X w (d + 3) 63 2 [some (.ref y), some (.int (nI c)), some (.int (nI t))] [] (gm_m s) Q := by
  intro n
  have hk1 := hk.1
  have hk2 := hk.2.1
  induction n with
  | zero =>
    intro t s ht hR hq
    have hy := hR.1
    have h9 := hR.2.2.2.2.2.2.1
    have e : p.1.2.2 = t := by omega
    rw [e] at h9
    rw [E_X10_hangFirst_2]
    simp only [E_X10_hangFirst_0, E_X10_hangFirst_1, E_X10_hangFirst_3, E_X10_hangFirst_4, E_X10_hangFirst_7, E_X10_hangFirst_10, E_X10_hangFirst_11, E_X10_hangFirst_14, E_X10_hangFirst_15, E_X10_hangFirst_16, E_X10_hangFirst_19, E_X10_hangFirst_20, E_X10_hangFirst_23, E_X10_hangFirst_24, E_X10_hangFirst_25, E_X10_hangFirst_26, E_X10_hangFirst_29, E_X10_hangFirst_32, E_X10_hangFirst_33, E_X10_hangFirst_34, E_X10_hangFirst_35, E_X10_hangFirst_38, E_X10_hangFirst_39, E_X10_hangFirst_42, E_X10_hangFirst_43, E_X10_hangFirst_44, E_X10_hangFirst_47, E_X10_hangFirst_50, E_X10_hangFirst_51, E_X10_hangFirst_52, E_X10_hangFirst_53, E_X10_hangFirst_56, E_X10_hangFirst_57, E_X10_hangFirst_60, E_X10_hangFirst_63, gy_gok hy, yg_9 hy, h9, nI_le (Nat.le_refl t) (by omega : t < 2 ^ 31), if_true, Nat.reduceLT]
    exact hq s gy_FR_refl hR
  | succ n ih =>
    intro t s ht hR hq
    have hy := hR.1
    have h9 := hR.2.2.2.2.2.2.1
    have hA := hR.2.2.2.2.2.2.2.1
    have a12 := hA 12 t (Or.inr (Or.inr (Or.inr ⟨by omega, by omega, by omega⟩)))
    have a13 := hA 13 t (Or.inr (Or.inr (Or.inr ⟨by omega, by omega, by omega⟩)))
    have a14 := hA 14 t (Or.inr (Or.inr (Or.inr ⟨by omega, by omega, by omega⟩)))
    have i1 : vp_in (nI t) 8 := vp_in_nI (by omega) (by omega)
    have i2 : (nI t).toNatClampNeg = t := nI_clamp (by omega)
    have hge : ¬ nI p.1.2.2 ≤ nI t := nI_ge (by omega) (by omega)
    have hi := ih (t + 1)
    rw [nI_succ] at hi
    rw [gA_hangN] at hq
    rw [E_X10_hangFirst_2]
    by_cases h0 : p.2.1 14 t = 0
    · by_cases h1 : p.2.1 13 t = nI c
      · simp only [E_X10_hangFirst_3, E_X10_hangFirst_4, E_X10_hangFirst_7, E_X10_hangFirst_10, E_X10_hangFirst_11, E_X10_hangFirst_14, E_X10_hangFirst_15, E_X10_hangFirst_16, E_X10_hangFirst_19, E_X10_hangFirst_20, E_X10_hangFirst_23, E_X10_hangFirst_24, E_X10_hangFirst_25, E_X10_hangFirst_26, E_X10_hangFirst_32, E_X10_hangFirst_33, E_X10_hangFirst_34, E_X10_hangFirst_35, gy_gok hy, gy_cl hy, yg_9 hy, yg_12 hy, yg_11 hy, h9, hge, if_false, if_true, Nat.reduceLT, ya_14 hy, yv_14 hy, ya_13 hy, yv_13 hy, i1, i2, a13, a14, h0, h1, List.map_nil, List.sum_nil, Nat.zero_le]
        refine gy_power hR hk hc (by omega) (fun s' hfr hR' => ?_)
        have a12' := hR'.2.2.2.2.2.2.2.1 12 t (Or.inr (Or.inr (Or.inr ⟨by omega, by omega, by omega⟩)))
        by_cases hle : p.2.1 12 t ≤ gA_pow p c t
        · rw [if_pos ⟨h0, h1, hle⟩] at hq
          simp only [Option.toList, List.cons_append, List.nil_append, E_X10_hangFirst_38, E_X10_hangFirst_39, E_X10_hangFirst_42, E_X10_hangFirst_43, E_X10_hangFirst_44, E_X10_hangFirst_50, E_X10_hangFirst_51, E_X10_hangFirst_52, E_X10_hangFirst_53, gy_gok hy, gy_cl hy, yg_10 hy, Nat.reduceLT, ya_12 hy, yv_12 hy, i1, i2, a12', hle, if_true, List.map_nil, List.sum_nil, Nat.zero_le]
          refine gy_setFresh hR' (by omega) (fun s2 hf2 hR2 => ?_)
          simp only [Option.toList, List.nil_append, E_X10_hangFirst_56]
          exact hq s2 (gy_FR_trans (gy_FR_fr hfr) hf2) hR2
        · rw [if_neg (fun e => hle e.2.2)] at hq
          simp only [Option.toList, List.cons_append, List.nil_append, E_X10_hangFirst_38, E_X10_hangFirst_39, E_X10_hangFirst_42, E_X10_hangFirst_43, E_X10_hangFirst_44, E_X10_hangFirst_47, E_X10_hangFirst_57, E_X10_hangFirst_60, gy_gok hy, yg_10 hy, Nat.reduceLT, ya_12 hy, yv_12 hy, i1, i2, a12', hle, if_false, gnk_i, gi_1]
          exact hi s' (by omega) hR' (fun s2 hf2 hR2 => hq s2 (gy_FR_trans (gy_FR_fr hfr) hf2) hR2)
      · rw [if_neg (fun e => h1 e.2.1)] at hq
        simp only [E_X10_hangFirst_0, E_X10_hangFirst_1, E_X10_hangFirst_3, E_X10_hangFirst_4, E_X10_hangFirst_7, E_X10_hangFirst_10, E_X10_hangFirst_11, E_X10_hangFirst_14, E_X10_hangFirst_15, E_X10_hangFirst_16, E_X10_hangFirst_19, E_X10_hangFirst_20, E_X10_hangFirst_23, E_X10_hangFirst_24, E_X10_hangFirst_25, E_X10_hangFirst_26, E_X10_hangFirst_29, E_X10_hangFirst_32, E_X10_hangFirst_33, E_X10_hangFirst_34, E_X10_hangFirst_35, E_X10_hangFirst_38, E_X10_hangFirst_39, E_X10_hangFirst_42, E_X10_hangFirst_43, E_X10_hangFirst_44, E_X10_hangFirst_47, E_X10_hangFirst_50, E_X10_hangFirst_51, E_X10_hangFirst_52, E_X10_hangFirst_53, E_X10_hangFirst_56, E_X10_hangFirst_57, E_X10_hangFirst_60, E_X10_hangFirst_63, gy_gok hy, yg_9 hy, yg_12 hy, yg_11 hy, h9, hge, if_false, if_true, Nat.reduceLT, ya_14 hy, yv_14 hy, ya_13 hy, yv_13 hy, i1, i2, a13, a14, h0, h1, gnk_i, gi_1]
        exact hi s (by omega) hR hq
    · rw [if_neg (fun e => h0 e.1)] at hq
      simp only [E_X10_hangFirst_0, E_X10_hangFirst_1, E_X10_hangFirst_3, E_X10_hangFirst_4, E_X10_hangFirst_7, E_X10_hangFirst_10, E_X10_hangFirst_11, E_X10_hangFirst_14, E_X10_hangFirst_15, E_X10_hangFirst_16, E_X10_hangFirst_19, E_X10_hangFirst_20, E_X10_hangFirst_23, E_X10_hangFirst_24, E_X10_hangFirst_25, E_X10_hangFirst_26, E_X10_hangFirst_29, E_X10_hangFirst_32, E_X10_hangFirst_33, E_X10_hangFirst_34, E_X10_hangFirst_35, E_X10_hangFirst_38, E_X10_hangFirst_39, E_X10_hangFirst_42, E_X10_hangFirst_43, E_X10_hangFirst_44, E_X10_hangFirst_47, E_X10_hangFirst_50, E_X10_hangFirst_51, E_X10_hangFirst_52, E_X10_hangFirst_53, E_X10_hangFirst_56, E_X10_hangFirst_57, E_X10_hangFirst_60, E_X10_hangFirst_63, gy_gok hy, yg_9 hy, yg_12 hy, yg_11 hy, h9, hge, if_false, if_true, Nat.reduceLT, ya_14 hy, yv_14 hy, i1, i2, a14, h0, gnk_i, gi_1]
      exact hi s (by omega) hR hq
theorem gy_hang {s : gm_S} (hR : gR s y f m p) (hk : gA_ok p) (hc : c < p.1.2.1) (hq : ∀ s', gy_FR y s s' → gR s' y f m (gA_hang p c) → Q none (gm_m s')) : gc_X w (d + 3) 63 0 [some (.ref y), some (.int (nI c)), none] [] (gm_m s) Q := by
  have h := gy_hang_loop (w := w) (d := d) (y := y) (f := f) (m := m) (Q := Q) hk hc p.1.2.2 0 s (by omega) hR hq
  rw [nI_0] at h
  simp only [E_X10_hangFirst_0, E_X10_hangFirst_1, gnk_i]
  exact h
end
