/-! numbers of the reference's yard written -/
theorem mR_ps {s : gm_S} {p : gA} {b j o t : Nat} {x y : Int32} (h : s.1 (131 + b) j = y) (hy : y = p.2.1 b j) (ho : o = b ∨ o ≠ b) : (gm_si s (131 + o) t x).1 (131 + b) j = (gA_set p o t x).2.1 b j := by
  rw [gsi_1, gA_set_at]
  by_cases e : b = o ∧ j = t
  · rw [if_pos e, if_pos ⟨by omega, e.2⟩]
  · rw [if_neg e, if_neg (fun e2 => e ⟨by omega, e2.2⟩), h, hy]
theorem mR_set {s : gm_S} {p : gA} {o t : Nat} {x : Int32} (hR : mR s p) (hk : p.1.2.1 ≤ 6) (ho : o = 12 ∨ o = 14 ∨ o = 15 ∨ o = 16) : mR (gm_si s (131 + o) t x) (gA_set p o t x) := by
  obtain ⟨h1, h2, h3, h4, h5, h6⟩ := hR
  refine ⟨?_, ?_, ?_, fun k hk => ?_, fun c hc => ⟨?_, ?_, fun k hk => ?_⟩, fun u hu => ⟨?_, ?_, ?_, ?_, ?_⟩⟩
  · rw [gsi_1, if_neg (fun e => by omega)]
    exact h1
  · rw [gsi_1, if_neg (fun e => by omega)]
    exact h2
  · rw [gsi_1, if_neg (fun e => by omega)]
    exact h3
  · rw [gsi_1, if_neg (fun e => by omega), gA_set_at, if_neg (fun e => by omega)]
    exact h4 k hk
  · rw [gsi_1, if_neg (fun e => by omega), gA_set_at, if_neg (fun e => by omega)]
    exact (h5 c hc).1
  · rw [gsi_1, if_neg (fun e => by omega), gA_set_at, if_neg (fun e => by omega)]
    exact (h5 c hc).2.1
  · have hc' : c < p.1.2.1 := hc
    rw [gsi_1, if_neg (fun e => by omega), gA_set_at, if_neg (fun e => by omega)]
    exact (h5 c hc).2.2 k hk
  · exact mR_ps (b := 12) (h6 u hu).1 rfl (by omega)
  · rw [gsi_1, if_neg (fun e => by omega), gA_set_at, if_neg (fun e => by omega)]
    exact (h6 u hu).2.1
  · exact mR_ps (b := 14) (h6 u hu).2.2.1 rfl (by omega)
  · exact mR_ps (b := 15) (h6 u hu).2.2.2.1 rfl (by omega)
  · exact mR_ps (b := 16) (h6 u hu).2.2.2.2 rfl (by omega)
