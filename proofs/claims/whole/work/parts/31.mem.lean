/-! THE STATE behind the constructors: every cell has its shape for good; what changes is ints, longs and a few references -/
abbrev gm_S : Type := (Nat → Nat → Int32) × (Nat → Nat → Option Nat) × (Nat → Nat → Int64)
abbrev gm_H : Type := Nat × Nat × List (Option (Option Nat))
def gm_sh_0 : List gm_H := [(8, 11, [some (some 83), some (some 101), some (some 119), some (some 1), some (some 5), some (some 9), some (some 13), some (some 17), some (some 21), none, some (some 25), none, some (some 26), none, some (some 64), some none, some (some 27)]),
  (8, 5, [some (some 2), some (some 3), some (some 4), none]),
  (0, 5, []),
  (0, 5, []),
  (0, 5, []),
  (8, 5, [some (some 6), some (some 7), some (some 8), none]),
  (0, 5, []),
  (0, 5, []),
  (0, 5, []),
  (8, 5, [some (some 10), some (some 11), some (some 12), none]),
  (0, 10, []),
  (0, 10, []),
  (0, 10, []),
  (8, 5, [some (some 14), some (some 15), some (some 16), none]),
  (0, 10, []),
  (0, 10, [])]
def gm_sh_1 : List gm_H := [(0, 10, []),
  (8, 5, [some (some 18), some (some 19), some (some 20), none]),
  (0, 8, []),
  (0, 8, []),
  (0, 8, []),
  (8, 5, [some (some 22), some (some 23), some (some 24), none]),
  (0, 8, []),
  (0, 8, []),
  (0, 8, []),
  (1, 100, []),
  (6, 6, [some (some 28), some (some 32), some (some 36), some (some 40), some (some 44), some (some 48)]),
  (7, 6, [some (some 52), some (some 54), some (some 56), some (some 58), some (some 60), some (some 62)]),
  (8, 1, [none, none, some (some 29), some (some 30), some (some 31), none, some none, none, none, none]),
  (0, 100, []),
  (0, 100, []),
  (0, 100, [])]
def gm_sh_2 : List gm_H := [(8, 1, [none, none, some (some 33), some (some 34), some (some 35), none, some none, none, none, none]),
  (0, 100, []),
  (0, 100, []),
  (0, 100, []),
  (8, 1, [none, none, some (some 37), some (some 38), some (some 39), none, some none, none, none, none]),
  (0, 100, []),
  (0, 100, []),
  (0, 100, []),
  (8, 1, [none, none, some (some 41), some (some 42), some (some 43), none, some none, none, none, none]),
  (0, 100, []),
  (0, 100, []),
  (0, 100, []),
  (8, 1, [none, none, some (some 45), some (some 46), some (some 47), none, some none, none, none, none]),
  (0, 100, []),
  (0, 100, []),
  (0, 100, [])]
def gm_sh_3 : List gm_H := [(8, 1, [none, none, some (some 49), some (some 50), some (some 51), none, some none, none, none, none]),
  (0, 100, []),
  (0, 100, []),
  (0, 100, []),
  (8, 8, [none, none, some (some 53)]),
  (2, 60, []),
  (8, 8, [none, none, some (some 55)]),
  (2, 60, []),
  (8, 8, [none, none, some (some 57)]),
  (2, 60, []),
  (8, 8, [none, none, some (some 59)]),
  (2, 60, []),
  (8, 8, [none, none, some (some 61)]),
  (2, 60, []),
  (8, 8, [none, none, some (some 63)]),
  (2, 60, [])]
def gm_sh_4 : List gm_H := [(5, 7, [some (some 65), some (some 67), some (some 69), some (some 71), some (some 73), some (some 75), some (some 77)]),
  (8, 0, [none, none, none, some (some 66)]),
  (0, 20, []),
  (8, 3, [none, none, none, some (some 68)]),
  (0, 20, []),
  (8, 4, [none, none, none, some (some 70)]),
  (0, 20, []),
  (8, 7, [none, none, none, some (some 72)]),
  (0, 20, []),
  (8, 2, [none, none, none, some (some 74)]),
  (0, 20, []),
  (8, 6, [none, none, none, some (some 76)]),
  (0, 20, []),
  (8, 9, [none, none, none, some (some 78)]),
  (0, 20, []),
  (8, 1, [none, none, some (some 80), some (some 81), some (some 82), none, some none, none, none, none])]
def gm_sh_5 : List gm_H := [(0, 100, []),
  (0, 100, []),
  (0, 100, []),
  (8, 10, [some (some 64), some none, none, some (some 84), none, some (some 85), some (some 86), some (some 87), some (some 88), none, some (some 95), some (some 96), some (some 97), some (some 98), some (some 99), some (some 100)]),
  (0, 4, []),
  (0, 6, []),
  (0, 6, []),
  (0, 6, []),
  (4, 6, [some (some 89), some (some 90), some (some 91), some (some 92), some (some 93), some (some 94)]),
  (0, 4, []),
  (0, 4, []),
  (0, 4, []),
  (0, 4, []),
  (0, 4, []),
  (0, 4, []),
  (0, 8, [])]
def gm_sh_6 : List gm_H := [(0, 8, []),
  (0, 8, []),
  (0, 8, []),
  (0, 8, []),
  (0, 6, []),
  (8, 10, [some (some 64), some none, none, some (some 102), none, some (some 103), some (some 104), some (some 105), some (some 106), none, some (some 113), some (some 114), some (some 115), some (some 116), some (some 117), some (some 118)]),
  (0, 4, []),
  (0, 6, []),
  (0, 6, []),
  (0, 6, []),
  (4, 6, [some (some 107), some (some 108), some (some 109), some (some 110), some (some 111), some (some 112)]),
  (0, 4, []),
  (0, 4, []),
  (0, 4, []),
  (0, 4, []),
  (0, 4, [])]
def gm_sh_7 : List gm_H := [(0, 4, []),
  (0, 8, []),
  (0, 8, []),
  (0, 8, []),
  (0, 8, []),
  (0, 8, []),
  (0, 6, []),
  (8, 10, [some (some 64), some none, none, some (some 120), none, some (some 121), some (some 122), some (some 123), some (some 124), none, some (some 131), some (some 132), some (some 133), some (some 134), some (some 135), some (some 136)]),
  (0, 4, []),
  (0, 6, []),
  (0, 6, []),
  (0, 6, []),
  (4, 6, [some (some 125), some (some 126), some (some 127), some (some 128), some (some 129), some (some 130)]),
  (0, 4, []),
  (0, 4, []),
  (0, 4, [])]
def gm_sh_8 : List gm_H := [(0, 4, []),
  (0, 4, []),
  (0, 4, []),
  (0, 8, []),
  (0, 8, []),
  (0, 8, []),
  (0, 8, []),
  (0, 8, []),
  (0, 6, []),
  (8, 12, [none, none, none, some (some 138), some (some 139), some (some 140), some (some 141), some (some 142), some (some 143), some (some 144), some (some 145), some (some 146), some (some 147), none, none, none, none, none, some (some 148), some (some 149), some (some 150), some (some 151), some (some 152), some (some 153), some (some 154), some (some 155), none, none, none, some (some 156), some (some 157), none, none, some (some 158), some (some 159), some (some 160), some (some 161), some (some 162), none, some (some 163), some (some 164), some (some 165), none, none, some (some 166), some (some 167), some (some 168), some (some 169), none, none, none, none, none, none, none, none, some (some 170), some (some 171), some (some 172), some (some 173), some (some 174), some (some 175), some (some 176), some (some 177), some (some 178), some (some 179), some (some 180), some (some 181), some (some 182), some (some 183), some (some 184), some (some 185), some (some 186), none, some (some 187), some (some 188), some (some 189), some (some 190), some (some 191)]),
  (0, 4, []),
  (0, 6, []),
  (0, 6, []),
  (0, 6, []),
  (0, 24, []),
  (0, 8, [])]
def gm_sh_9 : List gm_H := [(0, 8, []),
  (0, 8, []),
  (0, 8, []),
  (0, 8, []),
  (0, 100, []),
  (0, 6, []),
  (0, 60, []),
  (0, 60, []),
  (0, 60, []),
  (0, 60, []),
  (0, 600, []),
  (0, 101, []),
  (0, 18, []),
  (3, 100, []),
  (0, 6, []),
  (0, 8, [])]
def gm_sh_10 : List gm_H := [(0, 8, []),
  (0, 8, []),
  (0, 8, []),
  (0, 5, []),
  (0, 5, []),
  (0, 5, []),
  (0, 10, []),
  (0, 10, []),
  (0, 8, []),
  (0, 8, []),
  (0, 4, []),
  (0, 6, []),
  (0, 6, []),
  (0, 6, []),
  (0, 24, []),
  (0, 8, [])]
def gm_sh_11 : List gm_H := [(0, 8, []),
  (0, 8, []),
  (0, 8, []),
  (0, 8, []),
  (0, 5, []),
  (0, 5, []),
  (0, 5, []),
  (0, 10, []),
  (0, 10, []),
  (0, 8, []),
  (0, 8, []),
  (0, 20, []),
  (0, 6, []),
  (0, 6, []),
  (2, 360, []),
  (2, 60, [])]
def gm_shl : List gm_H := gm_sh_0 ++ (gm_sh_1 ++ (gm_sh_2 ++ (gm_sh_3 ++ (gm_sh_4 ++ (gm_sh_5 ++ (gm_sh_6 ++ (gm_sh_7 ++ (gm_sh_8 ++ (gm_sh_9 ++ (gm_sh_10 ++ (gm_sh_11)))))))))))
def gm_sh (a : Nat) : gm_H := gm_shl.getD a (0, 0, [])
def gm_fv (s : gm_S) (a : Nat) (q : Option (Option Nat) × Nat) : Value := match q.1 with
  | none => .int (s.1 a q.2)
  | some none => va_rf (s.2.1 a q.2)
  | some (some r) => .ref r
def gm_mk (s : gm_S) (a : Nat) (h : gm_H) : gc_C := match h with
  | (8, ci, ks) => .inl (ci, ks.zipIdx.map (gm_fv s a))
  | (2, n, _) => .inr (2, n, .inr (.inl (s.2.2 a)))
  | (0, n, _) => .inr (0, n, .inl (s.1 a))
  | (1, n, _) => .inr (1, n, .inl (s.1 a))
  | (3, n, _) => .inr (3, n, .inl (s.1 a))
  | (t, n, ks) => .inr (t, n, .inr (.inr (.inr (.inr (fun i => ((ks.getD i none).getD none))))))
def gm_m (s : gm_S) : gc_M := (192, 5364, fun a => if a < 192 then gm_mk s a (gm_sh a) else .inl (0, []))
/-- an int, a reference, a long is set -/
def gm_si (s : gm_S) (a k : Nat) (x : Int32) : gm_S := (fun b j => if b = a ∧ j = k then x else s.1 b j, s.2.1, s.2.2)
def gm_sr (s : gm_S) (a k : Nat) (r : Option Nat) : gm_S := (s.1, fun b j => if b = a ∧ j = k then r else s.2.1 b j, s.2.2)
def gm_sl (s : gm_S) (a k : Nat) (x : Int64) : gm_S := (s.1, s.2.1, fun b j => if b = a ∧ j = k then x else s.2.2 b j)
/-- a row's ints, longs are set -/
def gm_sa (s : gm_S) (a : Nat) (f : Nat → Int32) : gm_S := (fun b => if b = a then f else s.1 b, s.2.1, s.2.2)
def gm_sla (s : gm_S) (a : Nat) (f : Nat → Int64) : gm_S := (s.1, s.2.1, fun b => if b = a then f else s.2.2 b)
theorem gm_ext {s : gm_S} {a : Nat} {x : gc_C} {s' : gm_S} (ha : a < 192) (h1 : x = gm_mk s' a (gm_sh a)) (h2 : ∀ b, b ≠ a → s'.1 b = s.1 b ∧ s'.2.1 b = s.2.1 b ∧ s'.2.2 b = s.2.2 b) : gc_up (gm_m s) a x = gm_m s' := by
  unfold gc_up gm_m
  refine congrArg (fun f => ((192, 5364, f) : gc_M)) (funext fun b => ?_)
  by_cases hb : b = a
  · subst hb
    rw [if_pos rfl, if_pos ha, h1]
  · rw [if_neg hb]
    obtain ⟨e1, e2, e3⟩ := h2 b hb
    have : ∀ h : gm_H, gm_mk s b h = gm_mk s' b h := by
      intro h
      unfold gm_mk
      split
      · congr 2
        apply List.map_congr_left
        intro q _
        unfold gm_fv
        rw [e1, e2]
      · rw [e3]
      · rw [e1]
      · rw [e1]
      · rw [e1]
      · rfl
    show (if b < 192 then gm_mk s b (gm_sh b) else Sum.inl (0, [])) = _
    rw [this]
theorem gm_at {s : gm_S} {a : Nat} (ha : a < 192) : (gm_m s).2.2 a = gm_mk s a (gm_sh a) := if_pos ha
/-- arrays of ints, bytes, booleans -/
theorem gm_m_ai {s : gm_S} {a t n : Nat} {i : Int32} (ha : a < 192) (hs : gm_sh a = (t, n, [])) (ht : t = 0 ∨ t = 1 ∨ t = 3) : gm_ai (gm_m s) t a i = vp_in i n := by
  unfold gm_ai
  rw [gm_at ha, hs]
  rcases ht with rfl | rfl | rfl
  · exact propext ⟨fun h => h.2.2.2, fun h => ⟨ha, by omega, rfl, h⟩⟩
  · exact propext ⟨fun h => h.2.2.2, fun h => ⟨ha, by omega, rfl, h⟩⟩
  · exact propext ⟨fun h => h.2.2.2, fun h => ⟨ha, by omega, rfl, h⟩⟩
theorem gm_m_av {s : gm_S} {a t n j : Nat} (ha : a < 192) (hs : gm_sh a = (t, n, [])) (ht : t = 0 ∨ t = 1 ∨ t = 3) : gm_av (gm_m s) a j = s.1 a j := by
  unfold gm_av
  rw [gm_at ha, hs]
  rcases ht with rfl | rfl | rfl <;> rfl
theorem gm_upd_row {f : Nat → Int32} {k : Nat} {x : Int32} : upd f k x = fun j => if j = k then x else f j := rfl
theorem gm_m_as {s : gm_S} {a t n j : Nat} {x : Int32} (ha : a < 192) (hs : gm_sh a = (t, n, [])) (ht : t = 0 ∨ t = 1 ∨ t = 3) : gm_as (gm_m s) a j x = gm_m (gm_si s a j x) := by
  unfold gm_as
  have e : ∀ t, Sum.inr (t, n, Sum.inl (upd (s.1 a) j x)) = (Sum.inr (t, n, Sum.inl ((gm_si s a j x).1 a)) : gc_C) := by
    intro t
    congr 4
    funext i
    simp [gm_si, upd]
  have h2 : ∀ b, b ≠ a → (gm_si s a j x).1 b = s.1 b ∧ (gm_si s a j x).2.1 b = s.2.1 b ∧ (gm_si s a j x).2.2 b = s.2.2 b := by
    intro b hb
    refine ⟨funext fun i => ?_, rfl, rfl⟩
    simp [gm_si, hb]
  rw [gm_at ha, hs]
  rcases ht with rfl | rfl | rfl
  · exact gm_ext ha ((e 0).trans (by rw [hs]; rfl)) h2
  · exact gm_ext ha ((e 1).trans (by rw [hs]; rfl)) h2
  · exact gm_ext ha ((e 3).trans (by rw [hs]; rfl)) h2
theorem gm_m_ci {s : gm_S} {a b n0 n1 sp dp n : Nat} (ha : a < 192) (hb : b < 192) (hsa : gm_sh a = (0, n0, [])) (hsb : gm_sh b = (0, n1, [])) : gm_ci (gm_m s) a sp b dp n = gm_m (gm_sa s b (va_cpy (s.1 a) (s.1 b) sp dp n)) := by
  unfold gm_ci
  rw [gm_at ha, gm_at hb, hsa, hsb]
  refine gm_ext hb ?_ ?_
  · rw [hsb]
    show _ = Sum.inr (0, n1, Sum.inl ((gm_sa s b (va_cpy (s.1 a) (s.1 b) sp dp n)).1 b))
    simp [gm_sa]
  · intro c hc
    refine ⟨?_, rfl, rfl⟩
    simp [gm_sa, hc]
theorem gm_m_cio {s : gm_S} {a b n0 n1 : Nat} {sp dp n : Int32} (ha : a < 192) (hb : b < 192) (hsa : gm_sh a = (0, n0, [])) (hsb : gm_sh b = (0, n1, [])) : gm_cio (gm_m s) a sp b dp n = (¬ sp < 0 ∧ ¬ dp < 0 ∧ ¬ n < 0 ∧ sp.toNatClampNeg + n.toNatClampNeg ≤ n0 ∧ dp.toNatClampNeg + n.toNatClampNeg ≤ n1) := by
  unfold gm_cio
  rw [gm_at ha, gm_at hb, hsa, hsb]
  exact propext ⟨fun h => h.2.2.2.2.2.2, fun h => ⟨ha, by omega, hb, by omega, rfl, rfl, h⟩⟩
/-- arrays of longs -/
theorem gm_m_li {s : gm_S} {a n : Nat} {i : Int32} (ha : a < 192) (hs : gm_sh a = (2, n, [])) : gm_li (gm_m s) a i = vp_in i n := by
  unfold gm_li
  rw [gm_at ha, hs]
  exact propext ⟨fun h => h.2.2.2, fun h => ⟨ha, by omega, rfl, h⟩⟩
theorem gm_m_lv {s : gm_S} {a n j : Nat} (ha : a < 192) (hs : gm_sh a = (2, n, [])) : gm_lv (gm_m s) a j = s.2.2 a j := by
  unfold gm_lv
  rw [gm_at ha, hs]
  rfl
theorem gm_m_ls {s : gm_S} {a n j : Nat} {x : Int64} (ha : a < 192) (hs : gm_sh a = (2, n, [])) : gm_ls (gm_m s) a j x = gm_m (gm_sl s a j x) := by
  unfold gm_ls
  rw [gm_at ha, hs]
  refine gm_ext ha ?_ ?_
  · rw [hs]
    show Sum.inr (2, n, Sum.inr (Sum.inl (vp_updL (s.2.2 a) j x))) = Sum.inr (2, n, Sum.inr (Sum.inl ((gm_sl s a j x).2.2 a)))
    congr 5
    funext i
    simp [gm_sl, vp_updL]
  · intro b hb
    refine ⟨rfl, rfl, funext fun i => ?_⟩
    simp [gm_sl, hb]
theorem gm_m_cL {s : gm_S} {a b n0 n1 sp dp n : Nat} (ha : a < 192) (hb : b < 192) (hsa : gm_sh a = (2, n0, [])) (hsb : gm_sh b = (2, n1, [])) : gm_cL (gm_m s) a sp b dp n = gm_m (gm_sla s b (va_cpy (s.2.2 a) (s.2.2 b) sp dp n)) := by
  unfold gm_cL
  rw [gm_at ha, gm_at hb, hsa, hsb]
  refine gm_ext hb ?_ ?_
  · rw [hsb]
    show _ = Sum.inr (2, n1, Sum.inr (Sum.inl ((gm_sla s b (va_cpy (s.2.2 a) (s.2.2 b) sp dp n)).2.2 b)))
    simp [gm_sla]
  · intro c hc
    refine ⟨rfl, rfl, ?_⟩
    simp [gm_sla, hc]
theorem gm_m_cLo {s : gm_S} {a b n0 n1 : Nat} {sp dp n : Int32} (ha : a < 192) (hb : b < 192) (hsa : gm_sh a = (2, n0, [])) (hsb : gm_sh b = (2, n1, [])) : gm_cLo (gm_m s) a sp b dp n = (¬ sp < 0 ∧ ¬ dp < 0 ∧ ¬ n < 0 ∧ sp.toNatClampNeg + n.toNatClampNeg ≤ n0 ∧ dp.toNatClampNeg + n.toNatClampNeg ≤ n1) := by
  unfold gm_cLo
  rw [gm_at ha, gm_at hb, hsa, hsb]
  exact propext ⟨fun h => h.2.2.2.2.2.2, fun h => ⟨ha, by omega, hb, by omega, rfl, rfl, h⟩⟩
theorem gm_m_len {s : gm_S} {a t n : Nat} (ha : a < 192) (hs : gm_sh a = (t, n, [])) (ht : t < 4) : gm_len (gm_m s) a n := by
  unfold gm_len
  rw [gm_at ha, hs]
  match t, ht with
  | 0, _ => exact ⟨ha, by omega, by omega, rfl⟩
  | 1, _ => exact ⟨ha, by omega, by omega, rfl⟩
  | 2, _ => exact ⟨ha, by omega, by omega, rfl⟩
  | 3, _ => exact ⟨ha, by omega, by omega, rfl⟩
  | t + 4, h => exact absurd h (by omega)
theorem gm_m_ri {s : gm_S} {a t n r : Nat} {ks : List (Option (Option Nat))} {i : Int32} (ha : a < 192) (hs : gm_sh a = (t, n, ks)) (ht : 4 ≤ t ∧ t < 8) (hi : vp_in i n) (hr : ks.getD i.toNatClampNeg none = some (some r)) (h6 : r < 1000000) : gm_ri (gm_m s) a i r := by
  unfold gm_ri
  rw [gm_at ha, hs]
  have e : gm_mk s a (t, n, ks) = .inr (t, n, .inr (.inr (.inr (.inr (fun i => ((ks.getD i none).getD none)))))) := by
    match t, ht with
    | 4, _ => rfl
    | 5, _ => rfl
    | 6, _ => rfl
    | 7, _ => rfl
    | t + 8, h => exact absurd h.2 (by omega)
  rw [e]
  refine ⟨ha, by omega, ?_, hi, ?_, h6⟩
  · match t, ht with
    | 4, _ => decide
    | 5, _ => decide
    | 6, _ => decide
    | 7, _ => decide
    | t + 8, h => exact absurd h.2 (by omega)
  · show (ks.getD i.toNatClampNeg none).getD none = some r
    rw [hr]
    rfl
/-- objects -/
theorem gm_m_gv {s : gm_S} {a ci k : Nat} {ks : List (Option (Option Nat))} {q : Option (Option Nat)} (ha : a < 192) (hs : gm_sh a = (8, ci, ks)) (hk : ks[k]? = some q) : gm_gv (gm_m s) a k = gm_fv s a (q, k) := by
  unfold gm_gv
  rw [gm_at ha, hs]
  show (ks.zipIdx.map (gm_fv s a)).getD k .null = _
  rw [List.getD_eq_getElem?_getD, List.getElem?_map, List.getElem?_zipIdx, hk]
  simp
theorem gm_m_gok {s : gm_S} {cs : List Nat} {a ci k : Nat} {ks : List (Option (Option Nat))} (ha : a < 192) (hs : gm_sh a = (8, ci, ks)) (hk : k < ks.length) (hc : cs.contains ci = true) : gm_gok (gm_m s) cs a k = true := by
  unfold gm_gok
  rw [gm_at ha, hs]
  show (decide (a < 192) && decide (a < 1000000) && cs.contains ci && decide (k < (ks.zipIdx.map (gm_fv s a)).length)) = true
  rw [hc]
  simp [ha, hk]
  omega
theorem gm_m_cl {s : gm_S} {a ci : Nat} {ks : List (Option (Option Nat))} (ha : a < 192) (hs : gm_sh a = (8, ci, ks)) : gm_cl (gm_m s) a ci = true := by
  unfold gm_cl
  rw [gm_at ha, hs]
  show (decide (a < 192) && decide (a < 1000000) && ci == ci) = true
  simp [ha]
  omega
theorem gm_m_ps {s s' : gm_S} {a ci k : Nat} {v : Value} {ks : List (Option (Option Nat))} {q : Option (Option Nat)} (ha : a < 192) (hs : gm_sh a = (8, ci, ks)) (hk : ks[k]? = some q) (hv : gm_fv s' a (q, k) = v) (h1 : ∀ j, j ≠ k → s'.1 a j = s.1 a j ∧ s'.2.1 a j = s.2.1 a j) (h2 : ∀ b, b ≠ a → s'.1 b = s.1 b ∧ s'.2.1 b = s.2.1 b ∧ s'.2.2 b = s.2.2 b) : gm_ps (gm_m s) a k v = gm_m s' := by
  unfold gm_ps
  rw [gm_at ha, hs]
  refine gm_ext ha ?_ h2
  rw [hs]
  show Sum.inl (ci, (ks.zipIdx.map (gm_fv s a)).set k v) = Sum.inl (ci, ks.zipIdx.map (gm_fv s' a))
  congr 2
  apply List.ext_getElem?
  intro j
  rw [List.getElem?_set]
  by_cases hj : k = j
  · subst hj
    have hkl := (List.getElem?_eq_some_iff.mp hk).1
    rw [if_pos rfl, if_pos (by simpa using hkl), List.getElem?_map, List.getElem?_zipIdx, hk]
    simp [hv]
  · rw [if_neg hj, List.getElem?_map, List.getElem?_map, List.getElem?_zipIdx]
    cases hq : ks[j]? with
    | none => rfl
    | some z =>
      obtain ⟨e1, e2⟩ := h1 j (Ne.symm hj)
      simp only [Option.map_some]
      congr 1
      unfold gm_fv
      simp only [Nat.zero_add]
      rw [e1, e2]
theorem gm_m_psi {s : gm_S} {a ci k : Nat} {x : Int32} {ks : List (Option (Option Nat))} (ha : a < 192) (hs : gm_sh a = (8, ci, ks)) (hk : ks[k]? = some none) : gm_ps (gm_m s) a k (.int x) = gm_m (gm_si s a k x) := by
  refine gm_m_ps ha hs hk ?_ (fun j hj => ⟨?_, rfl⟩) (fun b hb => ⟨funext fun j => ?_, rfl, rfl⟩)
  · simp [gm_fv, gm_si]
  · simp [gm_si, hj]
  · simp [gm_si, hb]
theorem gm_m_psr {s : gm_S} {a ci k r : Nat} {ks : List (Option (Option Nat))} (ha : a < 192) (hs : gm_sh a = (8, ci, ks)) (hk : ks[k]? = some (some none)) : gm_ps (gm_m s) a k (.ref r) = gm_m (gm_sr s a k (some r)) := by
  refine gm_m_ps ha hs hk ?_ (fun j hj => ⟨rfl, ?_⟩) (fun b hb => ⟨rfl, funext fun j => ?_, rfl⟩)
  · simp [gm_fv, gm_sr, va_rf]
  · simp [gm_sr, hj]
  · simp [gm_sr, hb]
theorem gm_m_psn {s : gm_S} {a ci k : Nat} {ks : List (Option (Option Nat))} (ha : a < 192) (hs : gm_sh a = (8, ci, ks)) (hk : ks[k]? = some (some none)) : gm_ps (gm_m s) a k .null = gm_m (gm_sr s a k none) := by
  refine gm_m_ps ha hs hk ?_ (fun j hj => ⟨rfl, ?_⟩) (fun b hb => ⟨rfl, funext fun j => ?_, rfl⟩)
  · simp [gm_fv, gm_sr, va_rf]
  · simp [gm_sr, hj]
  · simp [gm_sr, hb]
