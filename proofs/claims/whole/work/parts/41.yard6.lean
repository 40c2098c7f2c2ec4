/-! a crane added, a thing added -/
/-- cell (o, j) of yard y tells what p tells -/
def gE (s : gm_S) (y : Nat) (p : gA) (o j : Nat) : Prop := s.1 (y + o) j = p.2.1 o j
theorem gE_same {s : gm_S} {y o j : Nat} {p : gA} {x : Int32} : gE (gm_si s (y + o) j x) y (gA_set p o j x) o j := by
  unfold gE
  rw [gsi_1, gA_set_at, if_pos ⟨rfl, rfl⟩, if_pos ⟨rfl, rfl⟩]
theorem gE_set {s : gm_S} {y o j a b : Nat} {p : gA} {x : Int32} (h : gE s y p a b) : gE (gm_si s (y + o) j x) y (gA_set p o j x) a b := by
  unfold gE at h ⊢
  rw [gsi_1, gA_set_at]
  by_cases e : a = o ∧ b = j
  · rw [if_pos e, if_pos ⟨by omega, e.2⟩]
  · rw [if_neg e, if_neg (fun e2 => e ⟨by omega, e2.2⟩)]
    exact h
theorem gR_nc {s : gm_S} {y f m : Nat} {p : gA} (hR : gR s y f m p) (e2 : gE s y p 2 p.1.2.1) (e3 : gE s y p 3 p.1.2.1) (e4 : gE s y p 4 p.1.2.1) (e6 : ∀ j, j < 4 → gE s y p (6 + p.1.2.1) j) : gR (gm_si s y 4 (nI (p.1.2.1 + 1))) y f m ((p.1.1, p.1.2.1 + 1, p.1.2.2), p.2) := by
  obtain ⟨hy, hf, h1, ho', h2, h4, h9, hA, hb, hh, hs⟩ := hR
  have hl := gF_yard hf hy
  refine ⟨hy, hf, h1, ⟨?_, ho'.2.1, ?_⟩, ?_, ?_, ?_, ?_, ?_, ?_, ?_⟩
  · rw [gsi_1, if_neg (fun e => by omega)]
    exact ho'.1
  · intro i hi
    rw [gsi_1, if_neg (fun e => by omega)]
    exact ho'.2.2 i hi
  · rw [gsi_1, if_neg (fun e => by omega)]
    exact h2
  · rw [gsi_1, if_pos ⟨rfl, rfl⟩]
  · rw [gsi_1, if_neg (fun e => by omega)]
    exact h9
  · intro a b hab
    have hab' : (a = 1 ∧ b < 4) ∨ ((a = 2 ∨ a = 3 ∨ a = 4) ∧ b < p.1.2.1 + 1) ∨ (6 ≤ a ∧ a < 6 + (p.1.2.1 + 1) ∧ b < 4) ∨ (12 ≤ a ∧ a ≤ 16 ∧ b < p.1.2.2) := hab
    rw [gsi_1, if_neg (fun e => by omega)]
    by_cases hc : gA_in p a b
    · exact hA a b hc
    · unfold gA_in at hc
      by_cases h : a = 6 + p.1.2.1
      · subst h
        exact e6 b (by omega)
      · have hb2 : b = p.1.2.1 := by omega
        subst hb2
        have ha : a = 2 ∨ a = 3 ∨ a = 4 := by omega
        rcases ha with rfl | rfl | rfl
        · exact e2
        · exact e3
        · exact e4
  · rw [gsi_1, if_neg (fun e => by omega)]
    exact hb
  · rw [gsi_1, if_neg (fun e => by omega)]
    exact hh
  · intro fx
    rw [gF_sum_cg (s := s) (fx := fx) ho' (fun k i hk => by rw [gsi_1, if_neg (fun e => by omega)]) (fun _ _ => rfl)]
    exact hs fx
theorem gR_nt {s : gm_S} {y f m : Nat} {p : gA} (hR : gR s y f m p) (e : ∀ o, 12 ≤ o → o ≤ 16 → gE s y p o p.1.2.2) : gR (gm_si s y 9 (nI (p.1.2.2 + 1))) y f m ((p.1.1, p.1.2.1, p.1.2.2 + 1), p.2) := by
  obtain ⟨hy, hf, h1, ho', h2, h4, h9, hA, hb, hh, hs⟩ := hR
  have hl := gF_yard hf hy
  refine ⟨hy, hf, h1, ⟨?_, ho'.2.1, ?_⟩, ?_, ?_, ?_, ?_, ?_, ?_, ?_⟩
  · rw [gsi_1, if_neg (fun e => by omega)]
    exact ho'.1
  · intro i hi
    rw [gsi_1, if_neg (fun e => by omega)]
    exact ho'.2.2 i hi
  · rw [gsi_1, if_neg (fun e => by omega)]
    exact h2
  · rw [gsi_1, if_neg (fun e => by omega)]
    exact h4
  · rw [gsi_1, if_pos ⟨rfl, rfl⟩]
  · intro a b hab
    have hab' : (a = 1 ∧ b < 4) ∨ ((a = 2 ∨ a = 3 ∨ a = 4) ∧ b < p.1.2.1) ∨ (6 ≤ a ∧ a < 6 + p.1.2.1 ∧ b < 4) ∨ (12 ≤ a ∧ a ≤ 16 ∧ b < p.1.2.2 + 1) := hab
    rw [gsi_1, if_neg (fun e => by omega)]
    by_cases hc : gA_in p a b
    · exact hA a b hc
    · unfold gA_in at hc
      have hb2 : b = p.1.2.2 := by omega
      subst hb2
      exact e a (by omega) (by omega)
  · rw [gsi_1, if_neg (fun e => by omega)]
    exact hb
  · rw [gsi_1, if_neg (fun e => by omega)]
    exact hh
  · intro fx
    rw [gF_sum_cg (s := s) (fx := fx) ho' (fun k i hk => by rw [gsi_1, if_neg (fun e => by omega)]) (fun _ _ => rfl)]
    exact hs fx
/-- the cells of a new crane -/
def gA_addC0 (p : gA) (k v : Int32) : gA := gA_set (gA_set (gA_set (gA_set (gA_set (gA_set (gA_set p 2 p.1.2.1 k) 3 p.1.2.1 v) 4 p.1.2.1 0) (6 + p.1.2.1) 0 0) (6 + p.1.2.1) 1 0) (6 + p.1.2.1) 2 0) (6 + p.1.2.1) 3 0
def gA_addC (p : gA) (k v : Int32) : gA := ((p.1.1, p.1.2.1 + 1, p.1.2.2), (gA_addC0 p k v).2)
def gA_addT0 (p : gA) (g c : Int32) : gA := gA_fresh (gA_set (gA_set p 12 p.1.2.2 g) 13 p.1.2.2 c) p.1.2.2 0
def gA_addT (p : gA) (g c : Int32) : gA := ((p.1.1, p.1.2.1, p.1.2.2 + 1), (gA_addT0 p g c).2)
section
variable {w : Nat × (Nat → Int32)} {d y f m : Nat} {s : gm_S} {p : gA} {Q : Option Value → gc_M → Prop} {x z : Int32}
/-- Yard.addThing -/
theorem gy_addThing (hR : gR s y f m p) (h8 : p.1.2.2 < 8) (hq : ∀ s', gy_FR y s s' → gR s' y f m (gA_addT p x z) → Q (some (.int (nI p.1.2.2))) (gm_m s')) : gc_X w (d + 1) 55 0 [some (.ref y), some (.int x), some (.int z), none] [] (gm_m s) Q := by
  have hy := hR.1
  have h9 := hR.2.2.2.2.2.2.1
  have i3 : vp_in (nI p.1.2.2) 8 := vp_in_nI (by omega) (by omega)
  have i4 : (nI p.1.2.2).toNatClampNeg = p.1.2.2 := nI_clamp (by omega)
  simp only [E_X10_addThing_0, E_X10_addThing_1, E_X10_addThing_4, E_X10_addThing_5, E_X10_addThing_6, E_X10_addThing_9, E_X10_addThing_10, E_X10_addThing_11, E_X10_addThing_12, E_X10_addThing_13, E_X10_addThing_16, E_X10_addThing_17, E_X10_addThing_18, E_X10_addThing_19, E_X10_addThing_20, E_X10_addThing_21, E_X10_addThing_22, E_X10_addThing_25, E_X10_addThing_26, E_X10_addThing_27, E_X10_addThing_30, E_X10_addThing_31, E_X10_addThing_32, E_X10_addThing_35, E_X10_addThing_36, E_X10_setFresh_0, E_X10_setFresh_1, E_X10_setFresh_4, E_X10_setFresh_5, E_X10_setFresh_6, E_X10_setFresh_7, E_X10_setFresh_8, E_X10_setFresh_11, E_X10_setFresh_12, E_X10_setFresh_13, E_X10_setFresh_14, E_X10_setFresh_15, E_X10_setFresh_18, E_X10_setFresh_19, E_X10_setFresh_20, E_X10_setFresh_21, gy_gok hy, gy_cl hy, yg_9 hy, yg_10 hy, yg_11 hy, yg_12 hy, yg_13 hy, yg_14 hy, yp_9 hy, h9, ya_12 hy, ys_12 hy, ya_13 hy, ys_13 hy, ya_14 hy, ys_14 hy, ya_15 hy, ys_15 hy, ya_16 hy, ys_16 hy, i3, i4, Nat.reduceLT, gnk_i, gsi_1, gn_ny, false_and, if_false, List.map_nil, List.sum_nil, Nat.zero_le, Option.toList, List.nil_append]
  rw [← nI_succ]
  have q := gR_set (o := 16) (j := p.1.2.2) (x := 0) (gR_set (o := 15) (j := p.1.2.2) (x := 0) (gR_set (o := 14) (j := p.1.2.2) (x := 0) (gR_set (o := 13) (j := p.1.2.2) (x := z) (gR_set (o := 12) (j := p.1.2.2) (x := x) hR (by decide) (by decide)) (by decide) (by decide)) (by decide) (by decide)) (by decide) (by decide)) (by decide) (by decide)
  refine hq _ (gy_FR_si (o := 0) (gy_FR_si (gy_FR_si (gy_FR_si (gy_FR_si (gy_FR_si gy_FR_refl (by decide)) (by decide)) (by decide)) (by decide)) (by decide)) (by decide)) (gR_nt q (fun o ho1 ho2 => ?_))
  have ho : o = 12 ∨ o = 13 ∨ o = 14 ∨ o = 15 ∨ o = 16 := by omega
  rcases ho with rfl | rfl | rfl | rfl | rfl
  · exact gE_set (gE_set (gE_set (gE_set gE_same)))
  · exact gE_set (gE_set (gE_set gE_same))
  · exact gE_set (gE_set gE_same)
  · exact gE_set gE_same
  · exact gE_same
end
