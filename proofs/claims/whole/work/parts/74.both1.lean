/-! both sides: told, see, plan, book, count, looked, feed -/
/-- all but the places D -/
def gAg (D : Nat → Nat → Prop) (s s' : gm_S) : Prop := s'.2 = s.2 ∧ ∀ b j, ¬ D b j → s'.1 b j = s.1 b j
theorem gAg_refl {D : Nat → Nat → Prop} {s : gm_S} : gAg D s s := ⟨rfl, fun _ _ _ => rfl⟩
theorem gAg_si {D : Nat → Nat → Prop} {s s' : gm_S} {a k : Nat} {x : Int32} (h : gAg D s s') (ha : D a k) : gAg D s (gm_si s' a k x) := by
  refine ⟨h.1, fun b j q => ?_⟩
  rw [gsi_1, if_neg (fun e => q (by rw [e.1, e.2]; exact ha))]
  exact h.2 b j q
theorem gAg_tr {D : Nat → Nat → Prop} {s s' s2 : gm_S} (h : gAg D s s') (h2 : gAg D s' s2) : gAg D s s2 := ⟨h2.1.trans h.1, fun b j q => (h2.2 b j q).trans (h.2 b j q)⟩
theorem gAg_mo {D E : Nat → Nat → Prop} {s s' : gm_S} (h : gAg D s s') (hd : ∀ b j, D b j → E b j) : gAg E s s' := ⟨h.1, fun b j q => h.2 b j (fun d => q (hd b j d))⟩
def pL (b j : Nat) : Prop := (1 ≤ b ∧ b ≤ 4) ∨ (9 ≤ b ∧ b ≤ 12) ∨ (17 ≤ b ∧ b ≤ 20) ∨ (b = 137 ∧ (j = 38 ∨ j = 42 ∨ j = 43)) ∨ (163 ≤ b ∧ b ≤ 169)
def pY (b j : Nat) : Prop := (83 ≤ b ∧ b ≤ 118) ∨ (b = 137 ∧ (j ≤ 2 ∨ j = 31 ∨ j = 32)) ∨ (138 ≤ b ∧ b ≤ 147) ∨ (157 ≤ b ∧ b ≤ 162)
section
variable {s s' : gm_S} {φ : List (List fC)} {p p' : gA} {cu : Option Nat} {cs : List fC} {f : Nat} {l1 k1 : List gTr} {l2 l3 k2 k3 : List (Nat × Nat)}
theorem gI_L (h : gI s φ p cu cs f l1 l2 l3) (e : gAg pL s s') (hL : kLs s' p.1.2.2 k1 k2 k3) : gInv s' := by
  obtain ⟨h1, h2, h3, h4, ⟨n, b, h5⟩, ⟨o, tr, h6⟩, h7⟩ := h
  obtain ⟨e1, e2⟩ := e
  exact ⟨⟨φ, p, cu, cs, f, k1, k2, k3, kFi_cg h1 (fun b j q => e2 b j (by unfold pL; omega)), kYd_cg h2 h1.2.2.1 (by rw [e1]) (fun b j q => e2 b j (by unfold pL; omega)), hL, kIm_cg h4 h1.2.2.1 (by rw [e1]) (fun b j q => e2 b j (by unfold pL; omega))⟩, ⟨n, b, kTx_cg h5 (fun b j q => e2 b j (by unfold pL; omega))⟩, ⟨o, tr, kAc_cg h6 (by rw [e1]) (fun b j q => e2 b j (by unfold pL; omega))⟩, kTp_cg h7 (fun b j q => by rw [e1]) (fun b j q => e2 b j (by unfold pL; omega))⟩
theorem kLs_mo {n n' : Nat} (h : kLs s n l1 l2 l3) (hn : n ≤ n') : kLs s n' l1 l2 l3 := by
  obtain ⟨⟨a1, a2, a3⟩, ⟨b1, b2, b3⟩, ⟨c1, c2, c3⟩⟩ := h
  exact ⟨⟨a1, a2, fun r hr => ⟨Nat.lt_of_lt_of_le (a3 r hr).1 hn, (a3 r hr).2⟩⟩, ⟨b1, b2, fun r hr => ⟨(b3 r hr).1, fun q => Nat.lt_of_lt_of_le ((b3 r hr).2 q) hn⟩⟩, ⟨c1, c2, fun r hr => ⟨Nat.lt_of_lt_of_le (c3 r hr).1 hn, (c3 r hr).2⟩⟩⟩
theorem gI_Y (h : gI s φ p cu cs f l1 l2 l3) (e : gAg pY s s') (hn : p.1.2.2 ≤ p'.1.2.2) (h8 : gA_all p' cs) (h9 : gR s' 83 f (fC_flat cs).length p') (h10 : mY 9999 s' cu cs p') : gInv s' := by
  obtain ⟨h1, h2, h3, h4, ⟨n, b, h5⟩, ⟨o, tr, h6⟩, h7⟩ := h
  obtain ⟨e1, e2⟩ := e
  have e3 : ∀ b j, ¬ pY b j → s'.1 b j = s.1 b j := e2
  exact ⟨⟨φ, p', cu, cs, f, l1, l2, l3, kFi_cg h1 (fun b j q => e3 b j (by unfold pY; omega)), ⟨h2.1, h8, h9, h10⟩, kLs_mo (kLs_cg h3 (fun b j q => e3 b j (by unfold pY; omega))) hn, kIm_cg h4 h1.2.2.1 (by rw [e1]) (fun b j q => e3 b j (by unfold pY; omega))⟩, ⟨n, b, kTx_cg h5 (fun b j q => e3 b j (by unfold pY; omega))⟩, ⟨o, tr, kAc_cg h6 (by rw [e1]) (fun b j q => e3 b j (by unfold pY; omega))⟩, kTp_cg h7 (fun b j q => by rw [e1]) (fun b j q => e3 b j (by unfold pY; omega))⟩
theorem gI_T (h : gI s φ p cu cs f l1 l2 l3) {n : Nat} {b : Nat → Nat} (e : gAg (fun b j => (b = 0 ∧ j = 11) ∨ b = 25 ∨ (b = 137 ∧ j = 15) ∨ b = 148) s s') (hT : kTx s' n b) : gInv s' := by
  obtain ⟨h1, h2, h3, h4, -, ⟨o, tr, h6⟩, h7⟩ := h
  obtain ⟨e1, e2⟩ := e
  exact ⟨⟨φ, p, cu, cs, f, l1, l2, l3, kFi_cg h1 (fun b j q => e2 b j (by omega)), kYd_cg h2 h1.2.2.1 (by rw [e1]) (fun b j q => e2 b j (by omega)), kLs_cg h3 (fun b j q => e2 b j (by omega)), kIm_cg h4 h1.2.2.1 (by rw [e1]) (fun b j q => e2 b j (by omega))⟩, ⟨n, b, hT⟩, ⟨o, tr, kAc_cg h6 (by rw [e1]) (fun b j q => e2 b j (by omega))⟩, kTp_cg h7 (fun b j q => by rw [e1]) (fun b j q => e2 b j (by omega))⟩
end
theorem get_app {α : Type} {l : List α} {a r : α} {i : Nat} (h : (l ++ [a])[i]? = some r) : (i < l.length ∧ l[i]? = some r) ∨ (i = l.length ∧ r = a) := by
  by_cases hi : i < l.length
  · rw [List.getElem?_append_left hi] at h
    exact Or.inl ⟨hi, h⟩
  · rw [List.getElem?_append_right (by omega)] at h
    by_cases e : i = l.length
    · subst e
      rw [Nat.sub_self] at h
      cases h
      exact Or.inr ⟨rfl, rfl⟩
    · have : 1 ≤ i - l.length := by omega
      rw [List.getElem?_eq_none (by simpa using this)] at h
      cases h
section
variable {w : Nat × (Nat → Int32)} {d f m : Nat} {s : gm_S} {p : gA} {Q : Option Value → gc_M → Prop} {x y z n : Int32} {cs : List fC} {cu : Option Nat}
/-- told -/
def a_told (p : gA) (x : Int32) : Int32 := if x = 0 then nI p.1.1 else if x = 1 then p.2.1 17 0 else if x = 2 then p.2.1 17 1 else if x = 3 then gA_bits p 0 p.1.2.2 0 0 else if x = 4 then gA_bits p 1 p.1.2.2 0 0 else if x = 5 then gA_bits p 2 p.1.2.2 0 0 else if x = 6 then gA_bits p 3 p.1.2.2 0 0 else if gA_of 4 (x - 10) then p.2.1 1 (x - 10).toNatClampNeg else -1
theorem c_told (hR : gR s 83 f m p) (hk : gA_ok p) : gc_X w (d + 1) 75 0 [some (.ref 0), some (.int x), none] [] (gm_m s) Q = Q (some (.int (a_told p x))) (gm_m s) := by
  have hw := fun (a b : Int32) (Q : Option Value → gc_M → Prop) => c_within (w := w) (d := d) (s := s) (x := a) (y := b) (Q := Q)
  have hb := fun (z : Int32) (Q : Option Value → gc_M → Prop) => gy_bits (w := w) (d := d) (z := z) (Q := Q) hR hk
  have e4 : gB_in (x - 10) 0 3 = gA_of 4 (x - 10) := gB_in_of (n := 4) (by omega)
  have hf := hR.2.1
  have h1 : s.2.1 83 1 = some f := hR.2.2.1
  have h2 : s.1 83 2 = nI p.1.1 := hR.2.2.2.2.1
  have hb0 : s.1 f 0 = p.2.1 17 0 := hR.2.2.2.2.2.2.2.2.1
  have hb1 : s.1 f 1 = p.2.1 17 1 := hR.2.2.2.2.2.2.2.2.2.1
  unfold a_told
  by_cases x0 : x = 0
  · simp (decide := true) only [E_X11_told_0, E_X11_told_1, E_X11_told_44, E_X11_told_45, E_X11_told_48, E_X11_told_51, E_X11_told_52, E_X11_told_53, E_X11_told_56, E_X11_told_59, E_X11_told_62, E_X11_told_63, E_X11_told_64, E_X11_told_67, E_X11_told_70, E_X11_told_73, E_X11_told_74, E_X11_told_75, E_X11_told_78, E_X11_told_79, E_X11_told_82, E_X11_told_83, E_X11_told_84, E_X11_told_87, E_X11_told_88, E_X11_told_91, E_X11_told_92, E_X11_told_93, E_X11_told_96, E_X11_told_97, E_X11_told_100, E_X11_told_101, E_X11_told_102, E_X11_told_105, E_X11_told_106, E_X11_told_109, E_X11_told_110, E_X11_told_111, E_X11_told_113, E_X11_told_114, E_X11_told_115, E_X11_told_116, E_X11_told_117, E_X11_told_120, E_X11_told_123, E_X11_told_124, E_X11_told_127, E_X11_told_130, E_X11_told_131, E_X11_told_132, E_X11_told_135, E_X11_told_136, rk_0, rk_83, rg_0_0, rg_83_2, h2, x0, gnk_i, gnk_r, gnk_n, gi_1, Nat.reduceLT, if_true, if_false]
  by_cases x1 : x = 1
  · simp (decide := true) only [E_X11_told_0, E_X11_told_1, E_X11_told_44, E_X11_told_45, E_X11_told_48, E_X11_told_51, E_X11_told_52, E_X11_told_53, E_X11_told_56, E_X11_told_59, E_X11_told_62, E_X11_told_63, E_X11_told_64, E_X11_told_67, E_X11_told_70, E_X11_told_73, E_X11_told_74, E_X11_told_75, E_X11_told_78, E_X11_told_79, E_X11_told_82, E_X11_told_83, E_X11_told_84, E_X11_told_87, E_X11_told_88, E_X11_told_91, E_X11_told_92, E_X11_told_93, E_X11_told_96, E_X11_told_97, E_X11_told_100, E_X11_told_101, E_X11_told_102, E_X11_told_105, E_X11_told_106, E_X11_told_109, E_X11_told_110, E_X11_told_111, E_X11_told_113, E_X11_told_114, E_X11_told_115, E_X11_told_116, E_X11_told_117, E_X11_told_120, E_X11_told_123, E_X11_told_124, E_X11_told_127, E_X11_told_130, E_X11_told_131, E_X11_told_132, E_X11_told_135, E_X11_told_136, rk_0, rk_83, rg_0_0, rg_83_1, h1, va_rf_some, gF_gok hf, Fg_0 hf, hb0, x1, gnk_i, gnk_r, gnk_n, gi_1, Nat.reduceLT, if_true, if_false]
  by_cases x2 : x = 2
  · simp (decide := true) only [E_X11_told_0, E_X11_told_1, E_X11_told_44, E_X11_told_45, E_X11_told_48, E_X11_told_51, E_X11_told_52, E_X11_told_53, E_X11_told_56, E_X11_told_59, E_X11_told_62, E_X11_told_63, E_X11_told_64, E_X11_told_67, E_X11_told_70, E_X11_told_73, E_X11_told_74, E_X11_told_75, E_X11_told_78, E_X11_told_79, E_X11_told_82, E_X11_told_83, E_X11_told_84, E_X11_told_87, E_X11_told_88, E_X11_told_91, E_X11_told_92, E_X11_told_93, E_X11_told_96, E_X11_told_97, E_X11_told_100, E_X11_told_101, E_X11_told_102, E_X11_told_105, E_X11_told_106, E_X11_told_109, E_X11_told_110, E_X11_told_111, E_X11_told_113, E_X11_told_114, E_X11_told_115, E_X11_told_116, E_X11_told_117, E_X11_told_120, E_X11_told_123, E_X11_told_124, E_X11_told_127, E_X11_told_130, E_X11_told_131, E_X11_told_132, E_X11_told_135, E_X11_told_136, rk_0, rk_83, rg_0_0, rg_83_1, h1, va_rf_some, gF_gok hf, Fg_1 hf, hb1, x2, gnk_i, gnk_r, gnk_n, gi_1, Nat.reduceLT, if_true, if_false]
  by_cases x3 : x = 3
  · simp (decide := true) only [E_X11_told_0, E_X11_told_1, E_X11_told_44, E_X11_told_45, E_X11_told_48, E_X11_told_51, E_X11_told_52, E_X11_told_53, E_X11_told_56, E_X11_told_59, E_X11_told_62, E_X11_told_63, E_X11_told_64, E_X11_told_67, E_X11_told_70, E_X11_told_73, E_X11_told_74, E_X11_told_75, E_X11_told_78, E_X11_told_79, E_X11_told_82, E_X11_told_83, E_X11_told_84, E_X11_told_87, E_X11_told_88, E_X11_told_91, E_X11_told_92, E_X11_told_93, E_X11_told_96, E_X11_told_97, E_X11_told_100, E_X11_told_101, E_X11_told_102, E_X11_told_105, E_X11_told_106, E_X11_told_109, E_X11_told_110, E_X11_told_111, E_X11_told_113, E_X11_told_114, E_X11_told_115, E_X11_told_116, E_X11_told_117, E_X11_told_120, E_X11_told_123, E_X11_told_124, E_X11_told_127, E_X11_told_130, E_X11_told_131, E_X11_told_132, E_X11_told_135, E_X11_told_136, rk_0, rc_83, rg_0_0, hb, x3, List.map_nil, List.map_cons, List.sum_cons, List.sum_nil, gcat_i, gcat_r, gcat_l, Nat.reduceAdd, Nat.reduceLeDiff, Nat.zero_le, Option.toList, List.cons_append, List.nil_append, gnk_i, gnk_r, gnk_n, gi_1, Nat.reduceLT, if_true, if_false]
  by_cases x4 : x = 4
  · simp (decide := true) only [E_X11_told_0, E_X11_told_1, E_X11_told_44, E_X11_told_45, E_X11_told_48, E_X11_told_51, E_X11_told_52, E_X11_told_53, E_X11_told_56, E_X11_told_59, E_X11_told_62, E_X11_told_63, E_X11_told_64, E_X11_told_67, E_X11_told_70, E_X11_told_73, E_X11_told_74, E_X11_told_75, E_X11_told_78, E_X11_told_79, E_X11_told_82, E_X11_told_83, E_X11_told_84, E_X11_told_87, E_X11_told_88, E_X11_told_91, E_X11_told_92, E_X11_told_93, E_X11_told_96, E_X11_told_97, E_X11_told_100, E_X11_told_101, E_X11_told_102, E_X11_told_105, E_X11_told_106, E_X11_told_109, E_X11_told_110, E_X11_told_111, E_X11_told_113, E_X11_told_114, E_X11_told_115, E_X11_told_116, E_X11_told_117, E_X11_told_120, E_X11_told_123, E_X11_told_124, E_X11_told_127, E_X11_told_130, E_X11_told_131, E_X11_told_132, E_X11_told_135, E_X11_told_136, rk_0, rc_83, rg_0_0, hb, x4, List.map_nil, List.map_cons, List.sum_cons, List.sum_nil, gcat_i, gcat_r, gcat_l, Nat.reduceAdd, Nat.reduceLeDiff, Nat.zero_le, Option.toList, List.cons_append, List.nil_append, gnk_i, gnk_r, gnk_n, gi_1, Nat.reduceLT, if_true, if_false]
  by_cases x5 : x = 5
  · simp (decide := true) only [E_X11_told_0, E_X11_told_1, E_X11_told_44, E_X11_told_45, E_X11_told_48, E_X11_told_51, E_X11_told_52, E_X11_told_53, E_X11_told_56, E_X11_told_59, E_X11_told_62, E_X11_told_63, E_X11_told_64, E_X11_told_67, E_X11_told_70, E_X11_told_73, E_X11_told_74, E_X11_told_75, E_X11_told_78, E_X11_told_79, E_X11_told_82, E_X11_told_83, E_X11_told_84, E_X11_told_87, E_X11_told_88, E_X11_told_91, E_X11_told_92, E_X11_told_93, E_X11_told_96, E_X11_told_97, E_X11_told_100, E_X11_told_101, E_X11_told_102, E_X11_told_105, E_X11_told_106, E_X11_told_109, E_X11_told_110, E_X11_told_111, E_X11_told_113, E_X11_told_114, E_X11_told_115, E_X11_told_116, E_X11_told_117, E_X11_told_120, E_X11_told_123, E_X11_told_124, E_X11_told_127, E_X11_told_130, E_X11_told_131, E_X11_told_132, E_X11_told_135, E_X11_told_136, rk_0, rc_83, rg_0_0, hb, x5, List.map_nil, List.map_cons, List.sum_cons, List.sum_nil, gcat_i, gcat_r, gcat_l, Nat.reduceAdd, Nat.reduceLeDiff, Nat.zero_le, Option.toList, List.cons_append, List.nil_append, gnk_i, gnk_r, gnk_n, gi_1, Nat.reduceLT, if_true, if_false]
  by_cases x6 : x = 6
  · simp (decide := true) only [E_X11_told_0, E_X11_told_1, E_X11_told_44, E_X11_told_45, E_X11_told_48, E_X11_told_51, E_X11_told_52, E_X11_told_53, E_X11_told_56, E_X11_told_59, E_X11_told_62, E_X11_told_63, E_X11_told_64, E_X11_told_67, E_X11_told_70, E_X11_told_73, E_X11_told_74, E_X11_told_75, E_X11_told_78, E_X11_told_79, E_X11_told_82, E_X11_told_83, E_X11_told_84, E_X11_told_87, E_X11_told_88, E_X11_told_91, E_X11_told_92, E_X11_told_93, E_X11_told_96, E_X11_told_97, E_X11_told_100, E_X11_told_101, E_X11_told_102, E_X11_told_105, E_X11_told_106, E_X11_told_109, E_X11_told_110, E_X11_told_111, E_X11_told_113, E_X11_told_114, E_X11_told_115, E_X11_told_116, E_X11_told_117, E_X11_told_120, E_X11_told_123, E_X11_told_124, E_X11_told_127, E_X11_told_130, E_X11_told_131, E_X11_told_132, E_X11_told_135, E_X11_told_136, rk_0, rc_83, rg_0_0, hb, x6, List.map_nil, List.map_cons, List.sum_cons, List.sum_nil, gcat_i, gcat_r, gcat_l, Nat.reduceAdd, Nat.reduceLeDiff, Nat.zero_le, Option.toList, List.cons_append, List.nil_append, gnk_i, gnk_r, gnk_n, gi_1, Nat.reduceLT, if_true, if_false]
  cases b4 : gA_of 4 (x - 10) with
  | false =>
    rw [b4] at e4
    simp (decide := true) only [E_X11_told_0, E_X11_told_1, E_X11_told_44, E_X11_told_45, E_X11_told_48, E_X11_told_51, E_X11_told_52, E_X11_told_53, E_X11_told_56, E_X11_told_59, E_X11_told_62, E_X11_told_63, E_X11_told_64, E_X11_told_67, E_X11_told_70, E_X11_told_73, E_X11_told_74, E_X11_told_75, E_X11_told_78, E_X11_told_79, E_X11_told_82, E_X11_told_83, E_X11_told_84, E_X11_told_87, E_X11_told_88, E_X11_told_91, E_X11_told_92, E_X11_told_93, E_X11_told_96, E_X11_told_97, E_X11_told_100, E_X11_told_101, E_X11_told_102, E_X11_told_105, E_X11_told_106, E_X11_told_109, E_X11_told_110, E_X11_told_111, E_X11_told_113, E_X11_told_114, E_X11_told_115, E_X11_told_116, E_X11_told_117, E_X11_told_120, E_X11_told_123, E_X11_told_124, E_X11_told_127, E_X11_told_130, E_X11_told_131, E_X11_told_132, E_X11_told_135, E_X11_told_136, hw, e4, x0, x1, x2, x3, x4, x5, x6, gb_0, List.map_nil, List.map_cons, List.sum_cons, List.sum_nil, gcat_i, gcat_r, gcat_l, Nat.reduceAdd, Nat.reduceLeDiff, Nat.zero_le, Option.toList, List.cons_append, List.nil_append, gnk_i, gnk_r, gnk_n, gi_1, Nat.reduceLT, if_true, if_false]
  | true =>
    rw [b4] at e4
    obtain ⟨j, hj, e⟩ := gA_of_ex b4 (by omega)
    rw [e] at e4
    have i1 : vp_in (nI j) 4 := vp_in_nI (by omega) (by omega)
    have i2 : (nI j).toNatClampNeg = j := nI_clamp (by omega)
    have a1 : s.1 84 j = p.2.1 1 j := hR.2.2.2.2.2.2.2.1 1 j (Or.inl ⟨rfl, hj⟩)
    simp (decide := true) only [E_X11_told_0, E_X11_told_1, E_X11_told_44, E_X11_told_45, E_X11_told_48, E_X11_told_51, E_X11_told_52, E_X11_told_53, E_X11_told_56, E_X11_told_59, E_X11_told_62, E_X11_told_63, E_X11_told_64, E_X11_told_67, E_X11_told_70, E_X11_told_73, E_X11_told_74, E_X11_told_75, E_X11_told_78, E_X11_told_79, E_X11_told_82, E_X11_told_83, E_X11_told_84, E_X11_told_87, E_X11_told_88, E_X11_told_91, E_X11_told_92, E_X11_told_93, E_X11_told_96, E_X11_told_97, E_X11_told_100, E_X11_told_101, E_X11_told_102, E_X11_told_105, E_X11_told_106, E_X11_told_109, E_X11_told_110, E_X11_told_111, E_X11_told_113, E_X11_told_114, E_X11_told_115, E_X11_told_116, E_X11_told_117, E_X11_told_120, E_X11_told_123, E_X11_told_124, E_X11_told_127, E_X11_told_130, E_X11_told_131, E_X11_told_132, E_X11_told_135, E_X11_told_136, rk_0, rk_83, rg_0_0, rg_83_3, ra_84, rv_84, i1, i2, a1, e, hw, e4, x0, x1, x2, x3, x4, x5, x6, gb_1, List.map_nil, List.map_cons, List.sum_cons, List.sum_nil, gcat_i, gcat_r, gcat_l, Nat.reduceAdd, Nat.reduceLeDiff, Nat.zero_le, Option.toList, List.cons_append, List.nil_append, gnk_i, gnk_r, gnk_n, gi_1, Nat.reduceLT, if_true, if_false]
theorem m_told (h : mYY s cu cs p) : gc_X w (d + 3) 162 0 [some (.ref 137), some (.int x)] [] (gm_m s) Q = Q (some (.int (a_told p x))) (gm_m s) := by
  have hk := h.2.1
  have hin := fun (a b c : Int32) (Q : Option Value → gc_M → Prop) => m_in (w := w) (d := d + 2) (s := s) (x := a) (y := b) (z := c) (Q := Q)
  have hso := fun (z : Int32) (Q : Option Value → gc_M → Prop) => m_setOf (w := w) (d := d + 2) (z := z) (Q := Q) h.1.1 hk
  have hbe := fun (Q : Option Value → gc_M → Prop) => m_bear2 (w := w) (d := d) (Q := Q) h.1.2.1 h.2.2.2.1
  have hha := fun (Q : Option Value → gc_M → Prop) => m_hang2 (w := w) (d := d) (Q := Q) h.1.2.1 h.2.2.2.1
  have e4 : gB_in x 10 13 = gA_of 4 (x - 10) := gB_sh (a := 9) (n := 4) (by omega) (by omega)
  have h2 := h.1.1.2.2.1
  have hb := h.1.2.2.2.2.2.1
  have hh := h.1.2.2.2.2.2.2
  have r36 : gB_in 3 3 6 = true ∧ gB_in 4 3 6 = true ∧ gB_in 5 3 6 = true ∧ gB_in 6 3 6 = true ∧ gB_in 0 3 6 = false ∧ gB_in 1 3 6 = false ∧ gB_in 2 3 6 = false ∧ gB_in 0 10 13 = false ∧ gB_in 1 10 13 = false ∧ gB_in 2 10 13 = false := by decide
  obtain ⟨q3, q4, q5, q6, q0, q1, q2, t0, t1, t2⟩ := r36
  have v3 : (3 : Int32) - 3 = 0 := by decide
  have v4 : (4 : Int32) - 3 = 1 := by decide
  have v5 : (5 : Int32) - 3 = 2 := by decide
  have v6 : (6 : Int32) - 3 = 3 := by decide
  unfold a_told
  by_cases x0 : x = 0
  · simp (decide := true) only [E_X12_told_0, E_X12_told_1, E_X12_told_2, E_X12_told_3, E_X12_told_5, E_X12_told_8, E_X12_told_11, E_X12_told_12, E_X12_told_13, E_X12_told_14, E_X12_told_15, E_X12_told_18, E_X12_told_19, E_X12_told_20, E_X12_told_21, E_X12_told_23, E_X12_told_25, E_X12_told_28, E_X12_told_31, E_X12_told_32, E_X12_told_35, E_X12_told_36, E_X12_told_38, E_X12_told_39, E_X12_told_40, E_X12_told_41, E_X12_told_42, E_X12_told_68, E_X12_told_69, E_X12_told_72, E_X12_told_73, E_X12_told_74, E_X12_told_77, E_X12_told_78, E_X12_told_79, E_X12_told_82, E_X12_told_83, E_X12_told_84, rk_137, rc_137, rg_137_2, h2, hin, x0, q0, t0, gb_0, List.map_nil, List.map_cons, List.sum_cons, List.sum_nil, gcat_i, gcat_r, gcat_l, Nat.reduceAdd, Nat.reduceLeDiff, Nat.zero_le, Option.toList, List.cons_append, List.nil_append, gnk_i, gnk_r, gnk_n, gi_1, Nat.reduceLT, if_true, if_false]
  by_cases x1 : x = 1
  · simp (decide := true) only [E_X12_told_0, E_X12_told_1, E_X12_told_2, E_X12_told_3, E_X12_told_5, E_X12_told_8, E_X12_told_11, E_X12_told_12, E_X12_told_13, E_X12_told_14, E_X12_told_15, E_X12_told_18, E_X12_told_19, E_X12_told_20, E_X12_told_21, E_X12_told_23, E_X12_told_25, E_X12_told_28, E_X12_told_31, E_X12_told_32, E_X12_told_35, E_X12_told_36, E_X12_told_38, E_X12_told_39, E_X12_told_40, E_X12_told_41, E_X12_told_42, E_X12_told_68, E_X12_told_69, E_X12_told_72, E_X12_told_73, E_X12_told_74, E_X12_told_77, E_X12_told_78, E_X12_told_79, E_X12_told_82, E_X12_told_83, E_X12_told_84, rc_137, hbe, hb, hin, x1, q1, t1, gb_0, List.map_nil, List.map_cons, List.sum_cons, List.sum_nil, gcat_i, gcat_r, gcat_l, Nat.reduceAdd, Nat.reduceLeDiff, Nat.zero_le, Option.toList, List.cons_append, List.nil_append, gnk_i, gnk_r, gnk_n, gi_1, Nat.reduceLT, if_true, if_false]
  by_cases x2 : x = 2
  · simp (decide := true) only [E_X12_told_0, E_X12_told_1, E_X12_told_2, E_X12_told_3, E_X12_told_5, E_X12_told_8, E_X12_told_11, E_X12_told_12, E_X12_told_13, E_X12_told_14, E_X12_told_15, E_X12_told_18, E_X12_told_19, E_X12_told_20, E_X12_told_21, E_X12_told_23, E_X12_told_25, E_X12_told_28, E_X12_told_31, E_X12_told_32, E_X12_told_35, E_X12_told_36, E_X12_told_38, E_X12_told_39, E_X12_told_40, E_X12_told_41, E_X12_told_42, E_X12_told_68, E_X12_told_69, E_X12_told_72, E_X12_told_73, E_X12_told_74, E_X12_told_77, E_X12_told_78, E_X12_told_79, E_X12_told_82, E_X12_told_83, E_X12_told_84, rc_137, hha, hh, hin, x2, q2, t2, gb_0, List.map_nil, List.map_cons, List.sum_cons, List.sum_nil, gcat_i, gcat_r, gcat_l, Nat.reduceAdd, Nat.reduceLeDiff, Nat.zero_le, Option.toList, List.cons_append, List.nil_append, gnk_i, gnk_r, gnk_n, gi_1, Nat.reduceLT, if_true, if_false]
  by_cases x3 : x = 3
  · simp (decide := true) only [E_X12_told_0, E_X12_told_1, E_X12_told_2, E_X12_told_3, E_X12_told_5, E_X12_told_8, E_X12_told_11, E_X12_told_12, E_X12_told_13, E_X12_told_14, E_X12_told_15, E_X12_told_18, E_X12_told_19, E_X12_told_20, E_X12_told_21, E_X12_told_23, E_X12_told_25, E_X12_told_28, E_X12_told_31, E_X12_told_32, E_X12_told_35, E_X12_told_36, E_X12_told_38, E_X12_told_39, E_X12_told_40, E_X12_told_41, E_X12_told_42, E_X12_told_68, E_X12_told_69, E_X12_told_72, E_X12_told_73, E_X12_told_74, E_X12_told_77, E_X12_told_78, E_X12_told_79, E_X12_told_82, E_X12_told_83, E_X12_told_84, rc_137, hso, hin, x3, q3, v3, gb_1, List.map_nil, List.map_cons, List.sum_cons, List.sum_nil, gcat_i, gcat_r, gcat_l, Nat.reduceAdd, Nat.reduceLeDiff, Nat.zero_le, Option.toList, List.cons_append, List.nil_append, gnk_i, gnk_r, gnk_n, gi_1, Nat.reduceLT, if_true, if_false]
  by_cases x4 : x = 4
  · simp (decide := true) only [E_X12_told_0, E_X12_told_1, E_X12_told_2, E_X12_told_3, E_X12_told_5, E_X12_told_8, E_X12_told_11, E_X12_told_12, E_X12_told_13, E_X12_told_14, E_X12_told_15, E_X12_told_18, E_X12_told_19, E_X12_told_20, E_X12_told_21, E_X12_told_23, E_X12_told_25, E_X12_told_28, E_X12_told_31, E_X12_told_32, E_X12_told_35, E_X12_told_36, E_X12_told_38, E_X12_told_39, E_X12_told_40, E_X12_told_41, E_X12_told_42, E_X12_told_68, E_X12_told_69, E_X12_told_72, E_X12_told_73, E_X12_told_74, E_X12_told_77, E_X12_told_78, E_X12_told_79, E_X12_told_82, E_X12_told_83, E_X12_told_84, rc_137, hso, hin, x4, q4, v4, gb_1, List.map_nil, List.map_cons, List.sum_cons, List.sum_nil, gcat_i, gcat_r, gcat_l, Nat.reduceAdd, Nat.reduceLeDiff, Nat.zero_le, Option.toList, List.cons_append, List.nil_append, gnk_i, gnk_r, gnk_n, gi_1, Nat.reduceLT, if_true, if_false]
  by_cases x5 : x = 5
  · simp (decide := true) only [E_X12_told_0, E_X12_told_1, E_X12_told_2, E_X12_told_3, E_X12_told_5, E_X12_told_8, E_X12_told_11, E_X12_told_12, E_X12_told_13, E_X12_told_14, E_X12_told_15, E_X12_told_18, E_X12_told_19, E_X12_told_20, E_X12_told_21, E_X12_told_23, E_X12_told_25, E_X12_told_28, E_X12_told_31, E_X12_told_32, E_X12_told_35, E_X12_told_36, E_X12_told_38, E_X12_told_39, E_X12_told_40, E_X12_told_41, E_X12_told_42, E_X12_told_68, E_X12_told_69, E_X12_told_72, E_X12_told_73, E_X12_told_74, E_X12_told_77, E_X12_told_78, E_X12_told_79, E_X12_told_82, E_X12_told_83, E_X12_told_84, rc_137, hso, hin, x5, q5, v5, gb_1, List.map_nil, List.map_cons, List.sum_cons, List.sum_nil, gcat_i, gcat_r, gcat_l, Nat.reduceAdd, Nat.reduceLeDiff, Nat.zero_le, Option.toList, List.cons_append, List.nil_append, gnk_i, gnk_r, gnk_n, gi_1, Nat.reduceLT, if_true, if_false]
  by_cases x6 : x = 6
  · simp (decide := true) only [E_X12_told_0, E_X12_told_1, E_X12_told_2, E_X12_told_3, E_X12_told_5, E_X12_told_8, E_X12_told_11, E_X12_told_12, E_X12_told_13, E_X12_told_14, E_X12_told_15, E_X12_told_18, E_X12_told_19, E_X12_told_20, E_X12_told_21, E_X12_told_23, E_X12_told_25, E_X12_told_28, E_X12_told_31, E_X12_told_32, E_X12_told_35, E_X12_told_36, E_X12_told_38, E_X12_told_39, E_X12_told_40, E_X12_told_41, E_X12_told_42, E_X12_told_68, E_X12_told_69, E_X12_told_72, E_X12_told_73, E_X12_told_74, E_X12_told_77, E_X12_told_78, E_X12_told_79, E_X12_told_82, E_X12_told_83, E_X12_told_84, rc_137, hso, hin, x6, q6, v6, gb_1, List.map_nil, List.map_cons, List.sum_cons, List.sum_nil, gcat_i, gcat_r, gcat_l, Nat.reduceAdd, Nat.reduceLeDiff, Nat.zero_le, Option.toList, List.cons_append, List.nil_append, gnk_i, gnk_r, gnk_n, gi_1, Nat.reduceLT, if_true, if_false]
  have n36 : gB_in x 3 6 = false := by
    cases hb : gB_in x 3 6 with
    | false => rfl
    | true =>
      obtain ⟨c, h1, h2, e⟩ := (gB_ab (a := 3) (b := 6) (by omega) (by omega)).mp hb
      have : c = 3 ∨ c = 4 ∨ c = 5 ∨ c = 6 := by omega
      rcases this with rfl | rfl | rfl | rfl
      · exact absurd e x3
      · exact absurd e x4
      · exact absurd e x5
      · exact absurd e x6
  cases b4 : gA_of 4 (x - 10) with
  | false =>
    rw [b4] at e4
    simp (decide := true) only [E_X12_told_0, E_X12_told_1, E_X12_told_2, E_X12_told_3, E_X12_told_5, E_X12_told_8, E_X12_told_11, E_X12_told_12, E_X12_told_13, E_X12_told_14, E_X12_told_15, E_X12_told_18, E_X12_told_19, E_X12_told_20, E_X12_told_21, E_X12_told_23, E_X12_told_25, E_X12_told_28, E_X12_told_31, E_X12_told_32, E_X12_told_35, E_X12_told_36, E_X12_told_38, E_X12_told_39, E_X12_told_40, E_X12_told_41, E_X12_told_42, E_X12_told_68, E_X12_told_69, E_X12_told_72, E_X12_told_73, E_X12_told_74, E_X12_told_77, E_X12_told_78, E_X12_told_79, E_X12_told_82, E_X12_told_83, E_X12_told_84, rc_137, hin, n36, e4, x0, x1, x2, x3, x4, x5, x6, gb_0, List.map_nil, List.map_cons, List.sum_cons, List.sum_nil, gcat_i, gcat_r, gcat_l, Nat.reduceAdd, Nat.reduceLeDiff, Nat.zero_le, Option.toList, List.cons_append, List.nil_append, gnk_i, gnk_r, gnk_n, gi_1, Nat.reduceLT, if_true, if_false]
  | true =>
    rw [b4] at e4
    obtain ⟨j, hj, e⟩ := gA_of_ex b4 (by omega)
    have i1 : vp_in (nI j) 4 := vp_in_nI (by omega) (by omega)
    have i2 : (nI j).toNatClampNeg = j := nI_clamp (by omega)
    have a1 := h.1.1.2.2.2.1 j hj
    simp (decide := true) only [E_X12_told_0, E_X12_told_1, E_X12_told_2, E_X12_told_3, E_X12_told_5, E_X12_told_8, E_X12_told_11, E_X12_told_12, E_X12_told_13, E_X12_told_14, E_X12_told_15, E_X12_told_18, E_X12_told_19, E_X12_told_20, E_X12_told_21, E_X12_told_23, E_X12_told_25, E_X12_told_28, E_X12_told_31, E_X12_told_32, E_X12_told_35, E_X12_told_36, E_X12_told_38, E_X12_told_39, E_X12_told_40, E_X12_told_41, E_X12_told_42, E_X12_told_68, E_X12_told_69, E_X12_told_72, E_X12_told_73, E_X12_told_74, E_X12_told_77, E_X12_told_78, E_X12_told_79, E_X12_told_82, E_X12_told_83, E_X12_told_84, rk_137, rc_137, rg_137_3, ra_138, rv_138, i1, i2, a1, e, hin, n36, e4, x0, x1, x2, x3, x4, x5, x6, gb_0, gb_1, List.map_nil, List.map_cons, List.sum_cons, List.sum_nil, gcat_i, gcat_r, gcat_l, Nat.reduceAdd, Nat.reduceLeDiff, Nat.zero_le, Option.toList, List.cons_append, List.nil_append, gnk_i, gnk_r, gnk_n, gi_1, Nat.reduceLT, if_true, if_false]
theorem i_told (h : gInv s) : gBoth w 75 162 [some (.ref 0), some (.int x), none] [some (.ref 137), some (.int x)] s := by
  have h0 := h
  obtain ⟨φ, p, cu, cs, f, l1, l2, l3, h⟩ := gInv_I h
  unfold gBoth
  rw [c_told (d := 39) (gI_R h) (gI_ok h)]
  refine ⟨s, rfl, ?_⟩
  rw [m_told (d := 37) (gI_YY h)]
  exact ⟨s, rfl, rfl, ⟨_, rfl⟩, h0⟩
end
