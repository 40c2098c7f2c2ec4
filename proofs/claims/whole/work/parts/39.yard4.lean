/-! hours of a yard, the loops -/
theorem nI_nm1 {t : Nat} (h : t < 8) : ¬ nI t = -1 := by
  match t, h with | 0, _ => decide | 1, _ => decide | 2, _ => decide | 3, _ => decide | 4, _ => decide | 5, _ => decide | 6, _ => decide | 7, _ => decide
section
variable {w : Nat × (Nat → Int32)} {d y f m : Nat} {Q : Option Value → gc_M → Prop}
theorem gA_hung_lt {p : gA} {c t : Nat} (h : gA_hung p c = some t) : t < p.1.2.2 := by
  have := gp_first_lt h
  omega
/-- the hour told -/
theorem gR_hour {s : gm_S} {p : gA} {h : Nat} (hR : gR s y f m p) : gR (gm_si s y 2 (nI h)) y f m ((h, p.1.2), p.2) := by
  obtain ⟨hy, hf, h1, ho', h2, h4, h9, hA, hb, hh, hs⟩ := hR
  have hl := gF_yard hf hy
  refine ⟨hy, hf, h1, ⟨?_, ho'.2.1, ?_⟩, ?_, ?_, ?_, ?_, ?_, ?_, ?_⟩
  · rw [gsi_1, if_neg (fun e => by omega)]
    exact ho'.1
  · intro i hi
    rw [gsi_1, if_neg (fun e => by omega)]
    exact ho'.2.2 i hi
  · rw [gsi_1, if_pos ⟨rfl, rfl⟩]
  · rw [gsi_1, if_neg (fun e => by omega)]
    exact h4
  · rw [gsi_1, if_neg (fun e => by omega)]
    exact h9
  · intro a b hab
    have hab' : gA_in p a b := hab
    rw [gsi_1, if_neg (fun e => by unfold gA_in at hab'; omega)]
    exact hA a b hab'
  · rw [gsi_1, if_neg (fun e => by omega)]
    exact hb
  · rw [gsi_1, if_neg (fun e => by omega)]
    exact hh
  · intro fx
    rw [gF_sum_cg (s := s) (fx := fx) ho' (fun k i hk => by rw [gsi_1, if_neg (fun e => by omega)]) (fun _ _ => rfl)]
    exact hs fx
theorem gy_cranes_loop {h0 hn : Int32} : ∀ (n c : Nat) (s : gm_S) (p : gA) (l4 : Option Value), gA_ok p → c + n = p.1.2.1 → gR s y f m p → (∀ s' l4', gy_FR y s s' → gR s' y f m (gA_cranes n c p) → gc_X w (d + 4) 62 51 [some (.ref y), some (.int hn), some (.int h0), some (.int (nI p.1.2.1)), l4'] [] (gm_m s') Q) → gc_X w (d + 4) 62 9 [some (.ref y), some (.int hn), some (.int h0), some (.int (nI c)), l4] [] (gm_m s) Q := by
  intro n
  induction n with
  | zero =>
    intro c s p l4 hk hc hR hq
    have hk1 := hk.1
    have hy := hR.1
    have h4 := hR.2.2.2.2.2.1
    have e : p.1.2.1 = c := by omega
    rw [e] at h4 hq
    rw [E_X10_go_9]
    simp only [E_X10_go_10, E_X10_go_11, E_X10_go_14, gy_gok hy, yg_4 hy, h4, nI_le (Nat.le_refl c) (by omega : c < 2 ^ 31), if_true, Nat.reduceLT]
    exact hq s l4 gy_FR_refl hR
  | succ n ih =>
    intro c s p l4 hk hc hR hq
    have hk1 := hk.1
    have hk2 := hk.2.1
    have hy := hR.1
    have h4 := hR.2.2.2.2.2.1
    have hge : ¬ nI p.1.2.1 ≤ nI c := nI_ge (by omega) (by omega)
    have hi := ih (c + 1)
    rw [nI_succ] at hi
    have hu := fun (Q : Option Value → gc_M → Prop) => gR_hung (w := w) (d := d + 3) (c := c) (Q := Q) hR hk
    rw [gA_cranes] at hq
    have hck := gA_crane_ok (c := c) hk
    have hcn := gA_crane_n (p := p) (c := c)
    rw [E_X10_go_9]
    unfold gA_crane at hq hck hcn
    cases hh : gA_hung p c with
    | none =>
      rw [hh] at hq hck hcn
      simp only [E_X10_go_0, E_X10_go_1, E_X10_go_2, E_X10_go_3, E_X10_go_4, E_X10_go_7, E_X10_go_8, E_X10_go_10, E_X10_go_11, E_X10_go_14, E_X10_go_17, E_X10_go_18, E_X10_go_19, E_X10_go_22, E_X10_go_24, E_X10_go_26, E_X10_go_27, E_X10_go_30, E_X10_go_31, E_X10_go_32, E_X10_go_35, E_X10_go_38, E_X10_go_39, E_X10_go_40, E_X10_go_42, E_X10_go_45, E_X10_go_48, E_X10_go_52, E_X10_go_53, E_X10_go_56, E_X10_go_57, E_X10_go_58, E_X10_go_61, E_X10_go_64, E_X10_go_67, gy_gok hy, gy_cl hy, yg_4 hy, h4, hge, hu, hh, gp_i, if_true, if_false, Nat.reduceLT, List.map_nil, List.sum_nil, Nat.zero_le, Option.toList, List.cons_append, List.nil_append, gnk_i]
      refine gy_hang hR hk (by omega) (fun s' hf hR' => ?_)
      simp only [E_X10_go_35, E_X10_go_45, E_X10_go_48, Option.toList, List.nil_append, gnk_i, gi_1]
      refine hi s' _ _ hck (by rw [hcn]; omega) hR' (fun s2 l4' hf2 hR2 => ?_)
      rw [hcn]
      exact hq s2 l4' (gy_FR_trans hf hf2) hR2
    | some t =>
      rw [hh] at hq hck hcn
      have ht := gA_hung_lt hh
      have hne := nI_nm1 (by omega : t < 8)
      simp only [E_X10_go_0, E_X10_go_1, E_X10_go_2, E_X10_go_3, E_X10_go_4, E_X10_go_7, E_X10_go_8, E_X10_go_10, E_X10_go_11, E_X10_go_14, E_X10_go_17, E_X10_go_18, E_X10_go_19, E_X10_go_22, E_X10_go_24, E_X10_go_26, E_X10_go_27, E_X10_go_30, E_X10_go_31, E_X10_go_32, E_X10_go_35, E_X10_go_38, E_X10_go_39, E_X10_go_40, E_X10_go_42, E_X10_go_45, E_X10_go_48, E_X10_go_52, E_X10_go_53, E_X10_go_56, E_X10_go_57, E_X10_go_58, E_X10_go_61, E_X10_go_64, E_X10_go_67, gy_gok hy, gy_cl hy, yg_4 hy, h4, hge, hu, hh, gp_i, hne, if_true, if_false, Nat.reduceLT, List.map_nil, List.sum_nil, Nat.zero_le, Option.toList, List.cons_append, List.nil_append, gnk_i]
      refine gy_swing hR hk (by omega) ht (fun s' hf hR' => ?_)
      simp only [E_X10_go_45, E_X10_go_48, Option.toList, List.nil_append, gnk_i, gi_1]
      refine hi s' _ _ hck (by rw [hcn]; omega) hR' (fun s2 l4' hf2 hR2 => ?_)
      rw [hcn]
      exact hq s2 l4' (gy_FR_trans hf hf2) hR2
theorem gy_go_loop {hn : Nat} (hb : hn < 2 ^ 31) : ∀ (n i : Nat) (s : gm_S) (p : gA) (l3 l4 : Option Value), (∀ x, l3 = some x → gm_nk l3 = true) → gA_ok p → i + n = hn → p.1.1 + n < 2 ^ 30 → gR s y f m p → (∀ s', gy_FR y s s' → gR s' y f m (gA_go n p) → Q none (gm_m s')) → gc_X w (d + 4) 62 2 [some (.ref y), some (.int (nI hn)), some (.int (nI i)), l3, l4] [] (gm_m s) Q := by
  intro n
  induction n with
  | zero =>
    intro i s p l3 l4 _ hk hc _ hR hq
    have e : hn = i := by omega
    subst e
    rw [E_X10_go_2]
    simp only [E_X10_go_3, E_X10_go_4, E_X10_go_67, nI_le (Nat.le_refl hn) hb, if_true]
    exact hq s gy_FR_refl hR
  | succ n ih =>
    intro i s p l3 l4 _ hk hc hh hR hq
    have hy := hR.1
    have hge : ¬ nI hn ≤ nI i := nI_ge (by omega) hb
    rw [E_X10_go_2]
    simp only [E_X10_go_3, E_X10_go_4, E_X10_go_7, E_X10_go_8, hge, if_false, gnk_i]
    rw [← nI_0]
    refine gy_cranes_loop p.1.2.1 0 s p l4 hk (by omega) hR (fun s' l4' hf hR' => ?_)
    have e2 : (gA_cranes p.1.2.1 0 p).1 = p.1 := gA_cranes_n
    have hR2 := gR_hour (h := p.1.1 + 1) hR'
    rw [e2, nI_succ] at hR2
    have h2 := hR'.2.2.2.2.1
    rw [e2] at h2
    simp only [E_X10_go_51, E_X10_go_52, E_X10_go_53, E_X10_go_56, E_X10_go_57, E_X10_go_58, E_X10_go_61, E_X10_go_64, gy_gok hy, yg_2 hy, yp_2 hy, h2, Nat.reduceLT, gnk_i, gi_1]
    rw [← nI_succ i]
    refine ih (i + 1) _ (gA_hour p) _ _ (fun x hx => by cases hx; exact gnk_i) (gA_hour_ok hk (by omega)) (by omega) (by show p.1.1 + 1 + n < _; omega) hR2 (fun s2 hf2 hR3 => ?_)
    exact hq s2 (gy_FR_trans (gy_FR_trans hf (gy_FR_si (o := 0) gy_FR_refl (by decide))) hf2) hR3
/-- Yard.go -/
theorem gy_go {hn : Nat} {s : gm_S} {p : gA} (hR : gR s y f m p) (hk : gA_ok p) (hb : p.1.1 + hn < 2 ^ 30) (hq : ∀ s', gy_FR y s s' → gR s' y f m (gA_go hn p) → Q none (gm_m s')) : gc_X w (d + 4) 62 0 [some (.ref y), some (.int (nI hn)), none, none, none] [] (gm_m s) Q := by
  have h := gy_go_loop (w := w) (d := d) (Q := Q) (by omega : hn < 2 ^ 31) hn 0 s p none none (fun x hx => by cases hx) hk (by omega) hb hR hq
  rw [nI_0] at h
  simp only [E_X10_go_0, E_X10_go_1, gnk_i, gnk_n]
  exact h
end
