/-! the law's loop -/
section
variable {w : Nat × (Nat → Int32)} {s : gm_S} {i : Nat} {Q : Option Value → gc_M → Prop}
theorem lw_6 : (Int32.ofInt 6 : Int32) = 6 := by decide
theorem lw_next : gc_X w 41 217 1205 (lwL i) [] (gm_m s) Q = gc_X w 41 217 18 (lwL (i + 6)) [] (gm_m s) Q := by
  have a6 : nI i + 6 = nI (i + 6) := nI_add i 6
  unfold lwL
  simp only [E_L_law_1205, E_L_law_1208, lw_6, a6, gnk_i, gnk_r, gnk_n, gi_1, Nat.reduceLT, if_true, if_false]
theorem lw_len {n : Nat} (hw : n < 2 ^ 31) : (nI n - 6).toInt = (n : Int) - 6 := by
  rw [Int32.toInt_sub, nI_toInt hw]
  have e : (6 : Int32).toInt = 6 := by decide
  rw [e]
  apply Int.bmod_eq_of_le <;> omega
theorem lw_exit (hw : w.1 < 2 ^ 31) (hi : i ≤ w.1) (h6 : ¬ i + 6 ≤ w.1) (hq : Q (some (.int 1)) (gm_m s)) : gc_X w 41 217 18 (lwL i) [] (gm_m s) Q := by
  have hl : nI w.1 - 6 < nI i := by
    rw [gx_lt, lw_len hw, nI_toInt (by omega)]
    omega
  have e : Int32.ofNat w.1 = nI w.1 := rfl
  have vb : vp_nar .boolean 1 = 1 := by decide
  unfold lwL
  simp only [E_L_law_18, E_L_law_19, E_L_law_20, E_L_law_21, E_L_law_23, E_L_law_24, E_L_law_1211, E_L_law_1212, e, hl, vb, gnk_i, gnk_r, gnk_n, gi_1, Nat.reduceLT, if_true, if_false]
  exact hq
theorem lw_case (hF : ∀ s, gInv s → gBoth w 74 138 [some (.ref 0), none, none] [some (.ref 137), none] s) (h : gInv s) (hi : i + 6 ≤ w.1) (hw : w.1 < 2 ^ 31) (hq : ∀ s', gInv s' → gc_X w 41 217 1205 (lwL i) [] (gm_m s') Q) (v : Int32) : gc_X w 41 217 33 (lwL i) [.int v] (gm_m s) Q := by
  rw [E_L_law_33]
  by_cases e0 : v = 0
  · rw [if_pos e0]
    exact lw_crane h hi hw hq
  rw [if_neg e0]
  by_cases e1 : v = 1
  · rw [if_pos e1]
    exact lw_of h hi hw hq
  rw [if_neg e1]
  by_cases e2 : v = 2
  · rw [if_pos e2]
    exact lw_thing h hi hw hq
  rw [if_neg e2]
  by_cases e3 : v = 3
  · rw [if_pos e3]
    exact lw_load h hi hw hq
  rw [if_neg e3]
  by_cases e4 : v = 4
  · rw [if_pos e4]
    exact lw_send h hi hw hq
  rw [if_neg e4]
  by_cases e5 : v = 5
  · rw [if_pos e5]
    exact lw_wind h hi hw hq
  rw [if_neg e5]
  by_cases e6 : v = 6
  · rw [if_pos e6]
    exact lw_row h hi hw hq
  rw [if_neg e6]
  by_cases e7 : v = 7
  · rw [if_pos e7]
    exact lw_feed h hi hw hq
  rw [if_neg e7]
  by_cases e8 : v = 8
  · rw [if_pos e8]
    exact lw_firm hF h hi hw hq
  rw [if_neg e8]
  by_cases e9 : v = 9
  · rw [if_pos e9]
    exact lw_told h hi hw hq
  rw [if_neg e9]
  by_cases e10 : v = 10
  · rw [if_pos e10]
    exact lw_pass h hi hw hq
  rw [if_neg e10]
  by_cases e11 : v = 11
  · rw [if_pos e11]
    exact lw_on h hi hw hq
  rw [if_neg e11]
  by_cases e12 : v = 12
  · rw [if_pos e12]
    exact lw_best h hi hw hq
  rw [if_neg e12]
  by_cases e13 : v = 13
  · rw [if_pos e13]
    exact lw_see h hi hw hq
  rw [if_neg e13]
  by_cases e14 : v = 14
  · rw [if_pos e14]
    exact lw_can h hi hw hq
  rw [if_neg e14]
  by_cases e15 : v = 15
  · rw [if_pos e15]
    exact lw_odds h hi hw hq
  rw [if_neg e15]
  by_cases e16 : v = 16
  · rw [if_pos e16]
    exact lw_mean h hi hw hq
  rw [if_neg e16]
  by_cases e17 : v = 17
  · rw [if_pos e17]
    exact lw_plan h hi hw hq
  rw [if_neg e17]
  by_cases e18 : v = 18
  · rw [if_pos e18]
    exact lw_ends h hi hw hq
  rw [if_neg e18]
  by_cases e19 : v = 19
  · rw [if_pos e19]
    exact lw_book h hi hw hq
  rw [if_neg e19]
  by_cases e20 : v = 20
  · rw [if_pos e20]
    exact lw_looked h hi hw hq
  rw [if_neg e20]
  by_cases e21 : v = 21
  · rw [if_pos e21]
    exact lw_judge h hi hw hq
  rw [if_neg e21]
  by_cases e22 : v = 22
  · rw [if_pos e22]
    exact lw_image h hi hw hq
  rw [if_neg e22]
  by_cases e23 : v = 23
  · rw [if_pos e23]
    exact lw_undo h hi hw hq
  rw [if_neg e23]
  by_cases e24 : v = 24
  · rw [if_pos e24]
    exact lw_act h hi hw hq
  rw [if_neg e24]
  by_cases e25 : v = 25
  · rw [if_pos e25]
    exact lw_trace h hi hw hq
  rw [if_neg e25]
  by_cases e26 : v = 26
  · rw [if_pos e26]
    exact lw_taken h hi hw hq
  rw [if_neg e26]
  by_cases e27 : v = 27
  · rw [if_pos e27]
    exact lw_count h hi hw hq
  rw [if_neg e27]
  by_cases e28 : v = 28
  · rw [if_pos e28]
    exact lw_tape h hi hw hq
  rw [if_neg e28]
  by_cases e29 : v = 29
  · rw [if_pos e29]
    exact lw_item h hi hw hq
  rw [if_neg e29]
  by_cases e30 : v = 30
  · rw [if_pos e30]
    exact lw_read h hi hw hq
  rw [if_neg e30]
  by_cases e31 : v = 31
  · rw [if_pos e31]
    exact lw_shift h hi hw hq
  rw [if_neg e31]
  exact hq s h
theorem lw_go (hF : ∀ s, gInv s → gBoth w 74 138 [some (.ref 0), none, none] [some (.ref 137), none] s) (h : gInv s) (hi : i + 6 ≤ w.1) (hw : w.1 < 2 ^ 31) (hq : ∀ s', gInv s' → gc_X w 41 217 18 (lwL (i + 6)) [] (gm_m s') Q) : gc_X w 41 217 18 (lwL i) [] (gm_m s) Q := by
  have hl : ¬ nI w.1 - 6 < nI i := by
    rw [gx_lt, lw_len hw, nI_toInt (by omega)]
    omega
  have e : Int32.ofNat w.1 = nI w.1 := rfl
  have v0 : vp_in (nI i) w.1 := vp_in_nI (by omega) hw
  have u0 : (nI i).toNatClampNeg = i := nI_clamp (by omega)
  have hc := lw_case (Q := Q) hF h hi hw (fun s' h' => by rw [lw_next]; exact hq s' h') (w.2 i &&& 31)
  unfold lwL at hc ⊢
  simp only [E_L_law_18, E_L_law_19, E_L_law_20, E_L_law_21, E_L_law_23, E_L_law_24, E_L_law_27, E_L_law_28, E_L_law_29, E_L_law_30, E_L_law_32, e, hl, v0, u0, gnk_i, gnk_r, gnk_n, gi_1, Nat.reduceLT, if_true, if_false]
  exact hc
theorem lw_loop (hF : ∀ s, gInv s → gBoth w 74 138 [some (.ref 0), none, none] [some (.ref 137), none] s) (hw : w.1 < 2 ^ 31) (hq : ∀ s', gInv s' → Q (some (.int 1)) (gm_m s')) : ∀ (n i : Nat) (s : gm_S), w.1 ≤ i + n → i ≤ w.1 → gInv s → gc_X w 41 217 18 (lwL i) [] (gm_m s) Q := by
  intro n
  induction n with
  | zero =>
    intro i s h1 h2 h
    exact lw_exit hw h2 (by omega) (hq s h)
  | succ n ih =>
    intro i s h1 h2 h
    by_cases h6 : i + 6 ≤ w.1
    · exact lw_go hF h h6 hw (fun s' h' => ih (i + 6) s' (by omega) h6 h')
    · exact lw_exit hw h2 h6 (hq s h)
end
