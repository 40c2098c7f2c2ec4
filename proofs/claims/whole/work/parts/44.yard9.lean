section
variable {w : Nat × (Nat → Int32)} {d y z f m : Nat} {s : gm_S} {p : gA} {Q : Option Value → gc_M → Prop}
theorem gy_copyA (hz : gZ y z) (hR : gR s z f m p) (hq : ∀ s' D, D 0 2 → D 0 4 → (∀ j, j < 4 → D 1 j) → (∀ o j, o = 2 ∨ o = 3 ∨ o = 4 → j < 6 → D o j) → gC s s' y z D → s'.2.1 y 1 = some f → gc_X w d 57 85 [some (.ref y), some (.ref z), some (.int 0)] [] (gm_m s') Q) : gc_X w d 57 0 [some (.ref y), some (.ref z), none] [] (gm_m s) Q := by
  have hy := hz.1
  have hyz := hz.2.1
  have h1 := hR.2.2.1
  have hf6 : f < 1000000 := by
    have := hR.2.1
    unfold gF_is at this
    omega
  have e0 : (0 : Int32).toNatClampNeg = 0 := rfl
  have e4 : (4 : Int32).toNatClampNeg = 4 := rfl
  have e6 : (6 : Int32).toNatClampNeg = 6 := rfl
  have c1 : ∀ s : gm_S, gm_cio (gm_m s) (z + 1) 0 (y + 1) 0 4 := fun s => yc_ok (k := 0) hz (by decide) (by decide)
  have c2 : ∀ s : gm_S, gm_cio (gm_m s) (z + 2) 0 (y + 2) 0 6 := fun s => yc_ok (k := 1) hz (by decide) (by decide)
  have c3 : ∀ s : gm_S, gm_cio (gm_m s) (z + 3) 0 (y + 3) 0 6 := fun s => yc_ok (k := 2) hz (by decide) (by decide)
  have c4 : ∀ s : gm_S, gm_cio (gm_m s) (z + 4) 0 (y + 4) 0 6 := fun s => yc_ok (k := 3) hz (by decide) (by decide)
  have k1 : ∀ (s : gm_S) (sp dp n : Nat), gm_ci (gm_m s) (z + 1) sp (y + 1) dp n = gm_m (gm_sa s (y + 1) (va_cpy (s.1 (z + 1)) (s.1 (y + 1)) sp dp n)) := fun s sp dp n => yc_ci (k := 0) hz (by decide)
  have k2 : ∀ (s : gm_S) (sp dp n : Nat), gm_ci (gm_m s) (z + 2) sp (y + 2) dp n = gm_m (gm_sa s (y + 2) (va_cpy (s.1 (z + 2)) (s.1 (y + 2)) sp dp n)) := fun s sp dp n => yc_ci (k := 1) hz (by decide)
  have k3 : ∀ (s : gm_S) (sp dp n : Nat), gm_ci (gm_m s) (z + 3) sp (y + 3) dp n = gm_m (gm_sa s (y + 3) (va_cpy (s.1 (z + 3)) (s.1 (y + 3)) sp dp n)) := fun s sp dp n => yc_ci (k := 2) hz (by decide)
  have k4 : ∀ (s : gm_S) (sp dp n : Nat), gm_ci (gm_m s) (z + 4) sp (y + 4) dp n = gm_m (gm_sa s (y + 4) (va_cpy (s.1 (z + 4)) (s.1 (y + 4)) sp dp n)) := fun s sp dp n => yc_ci (k := 3) hz (by decide)
  have n0 := gZ_0 hz
  have n1 := gZ_1 (b := 1) hz (by decide)
  have n2 := gZ_1 (b := 2) hz (by decide)
  have n3 := gZ_1 (b := 3) hz (by decide)
  have n4 := gZ_1 (b := 4) hz (by decide)
  simp only [E_X10_copyFrom_0, E_X10_copyFrom_1, E_X10_copyFrom_2, E_X10_copyFrom_5r, E_X10_copyFrom_5n, E_X10_copyFrom_8, E_X10_copyFrom_9, E_X10_copyFrom_10, E_X10_copyFrom_13, E_X10_copyFrom_16, E_X10_copyFrom_17, E_X10_copyFrom_20, E_X10_copyFrom_21, E_X10_copyFrom_22, E_X10_copyFrom_25, E_X10_copyFrom_26, E_X10_copyFrom_27, E_X10_copyFrom_30, E_X10_copyFrom_31, E_X10_copyFrom_32, E_X10_copyFrom_35, E_X10_copyFrom_38, E_X10_copyFrom_39, E_X10_copyFrom_42, E_X10_copyFrom_43, E_X10_copyFrom_44, E_X10_copyFrom_47, E_X10_copyFrom_48, E_X10_copyFrom_50, E_X10_copyFrom_53, E_X10_copyFrom_54, E_X10_copyFrom_57, E_X10_copyFrom_58, E_X10_copyFrom_59, E_X10_copyFrom_62, E_X10_copyFrom_63, E_X10_copyFrom_65, E_X10_copyFrom_68, E_X10_copyFrom_69, E_X10_copyFrom_72, E_X10_copyFrom_73, E_X10_copyFrom_74, E_X10_copyFrom_77, E_X10_copyFrom_78, E_X10_copyFrom_80, E_X10_copyFrom_83, E_X10_copyFrom_84, E_X10_copyFrom_86, E_X10_copyFrom_87, E_X10_copyFrom_90, E_X10_copyFrom_93, E_X10_copyFrom_94, E_X10_copyFrom_97, E_X10_copyFrom_98, E_X10_copyFrom_99, E_X10_copyFrom_100, E_X10_copyFrom_101, E_X10_copyFrom_104, E_X10_copyFrom_105, E_X10_copyFrom_106, E_X10_copyFrom_107, E_X10_copyFrom_108, E_X10_copyFrom_111, E_X10_copyFrom_114, E_X10_copyFrom_117, E_X10_copyFrom_118, E_X10_copyFrom_119, E_X10_copyFrom_122, E_X10_copyFrom_125, E_X10_copyFrom_126, E_X10_copyFrom_129, E_X10_copyFrom_130, E_X10_copyFrom_131, E_X10_copyFrom_134, E_X10_copyFrom_135, E_X10_copyFrom_137, E_X10_copyFrom_140, E_X10_copyFrom_141, E_X10_copyFrom_144, E_X10_copyFrom_145, E_X10_copyFrom_146, E_X10_copyFrom_149, E_X10_copyFrom_150, E_X10_copyFrom_152, E_X10_copyFrom_155, E_X10_copyFrom_156, E_X10_copyFrom_159, E_X10_copyFrom_160, E_X10_copyFrom_161, E_X10_copyFrom_164, E_X10_copyFrom_165, E_X10_copyFrom_167, E_X10_copyFrom_170, E_X10_copyFrom_171, E_X10_copyFrom_174, E_X10_copyFrom_175, E_X10_copyFrom_176, E_X10_copyFrom_179, E_X10_copyFrom_180, E_X10_copyFrom_182, E_X10_copyFrom_185, E_X10_copyFrom_186, E_X10_copyFrom_189, E_X10_copyFrom_190, E_X10_copyFrom_191, E_X10_copyFrom_194, E_X10_copyFrom_195, E_X10_copyFrom_197, E_X10_copyFrom_200, gy_gok hy, gy_gok hyz, yg_1 hyz, yg_2 hyz, yg_3 hyz, yg_3 hy, yg_4 hyz, yg_5 hyz, yg_5 hy, yg_6 hyz, yg_6 hy, yg_7 hyz, yg_7 hy, yp_1 hy, yp_2 hy, yp_4 hy, h1, va_rf_some, hf6, gsr_1, gsi_1, gsa_1, n0, n1, n2, n3, n4, false_and, if_false, c1, c2, c3, c4, k1, k2, k3, k4, e0, e4, e6, gnk_r, Nat.reduceLT]
  refine hq _ _ ?_ ?_ ?_ ?_ (gC_sa (gC_sa (gC_sa (gC_si (gC_sa (gC_si (gC_sr gC_0) rfl) hz (by decide)) rfl) hz (by decide)) hz (by decide)) hz (by decide)) ?_
  · exact Or.inl (Or.inl (Or.inl (Or.inl (Or.inl (Or.inr ⟨rfl, rfl⟩)))))
  · exact Or.inl (Or.inl (Or.inl (Or.inr ⟨rfl, rfl⟩)))
  · exact fun j hj => Or.inl (Or.inl (Or.inl (Or.inl (Or.inr ⟨rfl, hj⟩))))
  · intro o j ho hj
    rcases ho with rfl | rfl | rfl
    · exact Or.inl (Or.inl (Or.inr ⟨rfl, hj⟩))
    · exact Or.inl (Or.inr ⟨rfl, hj⟩)
    · exact Or.inr ⟨rfl, hj⟩
  · show (if y = y ∧ 1 = 1 then some f else _) = some f
    rw [if_pos ⟨rfl, rfl⟩]
theorem gy_copyB (hz : gZ y z) (hR : gR s z f m p) (hk : gA_ok p) : ∀ (n c : Nat) (s' : gm_S) (D : Nat → Nat → Prop), c + n = p.1.2.1 → D 0 4 → gC s s' y z D → s'.2.1 y 1 = some f → (∀ i j, i < c → j < 4 → D (6 + i) j) → (∀ s2 D2 l2, (∀ a b, D a b → D2 a b) → (∀ i j, i < p.1.2.1 → j < 4 → D2 (6 + i) j) → gC s s2 y z D2 → s2.2.1 y 1 = some f → gc_X w d 57 117 [some (.ref y), some (.ref z), l2] [] (gm_m s2) Q) → gc_X w d 57 85 [some (.ref y), some (.ref z), some (.int (nI c))] [] (gm_m s') Q := by
  intro n
  have hy := hz.1
  have hyz := hz.2.1
  have hk1 := hk.1
  have h4 := hR.2.2.2.2.2.1
  induction n with
  | zero =>
    intro c s' D hc d4 hC h1 hrow hq
    have e4 : s'.1 y 4 = s.1 z 4 := hC.2.2.2 0 4 (by decide) d4
    rw [h4] at e4
    have e : p.1.2.1 = c := by omega
    rw [e] at e4
    rw [E_X10_copyFrom_85]
    simp only [E_X10_copyFrom_86, E_X10_copyFrom_87, E_X10_copyFrom_90, gy_gok hy, yg_4 hy, e4, nI_le (Nat.le_refl c) (by omega : c < 2 ^ 31), if_true, Nat.reduceLT]
    exact hq s' D _ (fun _ _ h => h) (fun i j hi hj => hrow i j (by omega) hj) hC h1
  | succ n ih =>
    intro c s' D hc d4 hC h1 hrow hq
    have c6 : c < 6 := by omega
    have e4 : s'.1 y 4 = s.1 z 4 := hC.2.2.2 0 4 (by decide) d4
    rw [h4] at e4
    have hge : ¬ nI p.1.2.1 ≤ nI c := nI_ge (by omega) (by omega)
    have i4 : (nI c).toNatClampNeg = c := nI_clamp (by omega)
    have q1 := fun s => gm_ri_rok (yr_ri (s := s) hy c6)
    have q2 := fun s => gm_ri_rr (yr_ri (s := s) hy c6)
    have q3 := fun s => gm_ri_rok (yr_ri (s := s) hyz c6)
    have q4 := fun s => gm_ri_rr (yr_ri (s := s) hyz c6)
    rw [i4] at q2 q4
    have e0 : (0 : Int32).toNatClampNeg = 0 := rfl
    have e4' : (4 : Int32).toNatClampNeg = 4 := rfl
    have cr : ∀ s : gm_S, gm_cio (gm_m s) (z + 6 + c) 0 (y + 6 + c) 0 4 := fun s => yc_row hz c6
    have hi := ih (c + 1)
    rw [nI_succ] at hi
    rw [E_X10_copyFrom_85]
    simp only [E_X10_copyFrom_86, E_X10_copyFrom_87, E_X10_copyFrom_90, E_X10_copyFrom_93, E_X10_copyFrom_94, E_X10_copyFrom_97, E_X10_copyFrom_98, E_X10_copyFrom_99, E_X10_copyFrom_100, E_X10_copyFrom_101, E_X10_copyFrom_104, E_X10_copyFrom_105, E_X10_copyFrom_106, E_X10_copyFrom_107, E_X10_copyFrom_108, E_X10_copyFrom_111, E_X10_copyFrom_114, gy_gok hy, gy_gok hyz, yg_4 hy, yg_8 hy, yg_8 hyz, e4, hge, if_false, Nat.reduceLT, i4, q1, q2, q3, q4, cr, yc_rci hz c6, e0, e4', gnk_r, gi_1]
    have hC2 := gC_sa (o := 6 + c) (n := 4) hC hz (by omega)
    rw [← Nat.add_assoc, ← Nat.add_assoc] at hC2
    refine hi _ _ (by omega) (Or.inl d4) hC2 h1 (fun i j hi hj => ?_) (fun s2 D2 l2 hD hrow2 hC3 h13 => hq s2 D2 l2 (fun a b h => hD a b (Or.inl h)) hrow2 hC3 h13)
    by_cases e : i = c
    · subst e
      exact Or.inr ⟨rfl, hj⟩
    · exact Or.inl (hrow i j (by omega) hj)
theorem gy_copyC {s' : gm_S} {D : Nat → Nat → Prop} {l2 : Option Value} (hz : gZ y z) (hC : gC s s' y z D) (hq : ∀ s2 D2, (∀ a b, D a b → D2 a b) → D2 0 9 → (∀ o j, 12 ≤ o → o ≤ 16 → j < 8 → D2 o j) → gC s s2 y z D2 → s2.2 = s'.2 → Q none (gm_m s2)) : gc_X w d 57 117 [some (.ref y), some (.ref z), l2] [] (gm_m s') Q := by
  have hy := hz.1
  have hyz := hz.2.1
  have e0 : (0 : Int32).toNatClampNeg = 0 := rfl
  have e8 : (8 : Int32).toNatClampNeg = 8 := rfl
  have c1 : ∀ s : gm_S, gm_cio (gm_m s) (z + 12) 0 (y + 12) 0 8 := fun s => yc_ok (k := 11) hz (by decide) (by decide)
  have c2 : ∀ s : gm_S, gm_cio (gm_m s) (z + 13) 0 (y + 13) 0 8 := fun s => yc_ok (k := 12) hz (by decide) (by decide)
  have c3 : ∀ s : gm_S, gm_cio (gm_m s) (z + 14) 0 (y + 14) 0 8 := fun s => yc_ok (k := 13) hz (by decide) (by decide)
  have c4 : ∀ s : gm_S, gm_cio (gm_m s) (z + 15) 0 (y + 15) 0 8 := fun s => yc_ok (k := 14) hz (by decide) (by decide)
  have c5 : ∀ s : gm_S, gm_cio (gm_m s) (z + 16) 0 (y + 16) 0 8 := fun s => yc_ok (k := 15) hz (by decide) (by decide)
  have k1 : ∀ (s : gm_S) (sp dp n : Nat), gm_ci (gm_m s) (z + 12) sp (y + 12) dp n = gm_m (gm_sa s (y + 12) (va_cpy (s.1 (z + 12)) (s.1 (y + 12)) sp dp n)) := fun s sp dp n => yc_ci (k := 11) hz (by decide)
  have k2 : ∀ (s : gm_S) (sp dp n : Nat), gm_ci (gm_m s) (z + 13) sp (y + 13) dp n = gm_m (gm_sa s (y + 13) (va_cpy (s.1 (z + 13)) (s.1 (y + 13)) sp dp n)) := fun s sp dp n => yc_ci (k := 12) hz (by decide)
  have k3 : ∀ (s : gm_S) (sp dp n : Nat), gm_ci (gm_m s) (z + 14) sp (y + 14) dp n = gm_m (gm_sa s (y + 14) (va_cpy (s.1 (z + 14)) (s.1 (y + 14)) sp dp n)) := fun s sp dp n => yc_ci (k := 13) hz (by decide)
  have k4 : ∀ (s : gm_S) (sp dp n : Nat), gm_ci (gm_m s) (z + 15) sp (y + 15) dp n = gm_m (gm_sa s (y + 15) (va_cpy (s.1 (z + 15)) (s.1 (y + 15)) sp dp n)) := fun s sp dp n => yc_ci (k := 14) hz (by decide)
  have k5 : ∀ (s : gm_S) (sp dp n : Nat), gm_ci (gm_m s) (z + 16) sp (y + 16) dp n = gm_m (gm_sa s (y + 16) (va_cpy (s.1 (z + 16)) (s.1 (y + 16)) sp dp n)) := fun s sp dp n => yc_ci (k := 15) hz (by decide)
  have h9 : s'.1 z 9 = s.1 z 9 := gC_z (o := 0) hC hz (by decide)
  simp only [E_X10_copyFrom_0, E_X10_copyFrom_1, E_X10_copyFrom_2, E_X10_copyFrom_5r, E_X10_copyFrom_5n, E_X10_copyFrom_8, E_X10_copyFrom_9, E_X10_copyFrom_10, E_X10_copyFrom_13, E_X10_copyFrom_16, E_X10_copyFrom_17, E_X10_copyFrom_20, E_X10_copyFrom_21, E_X10_copyFrom_22, E_X10_copyFrom_25, E_X10_copyFrom_26, E_X10_copyFrom_27, E_X10_copyFrom_30, E_X10_copyFrom_31, E_X10_copyFrom_32, E_X10_copyFrom_35, E_X10_copyFrom_38, E_X10_copyFrom_39, E_X10_copyFrom_42, E_X10_copyFrom_43, E_X10_copyFrom_44, E_X10_copyFrom_47, E_X10_copyFrom_48, E_X10_copyFrom_50, E_X10_copyFrom_53, E_X10_copyFrom_54, E_X10_copyFrom_57, E_X10_copyFrom_58, E_X10_copyFrom_59, E_X10_copyFrom_62, E_X10_copyFrom_63, E_X10_copyFrom_65, E_X10_copyFrom_68, E_X10_copyFrom_69, E_X10_copyFrom_72, E_X10_copyFrom_73, E_X10_copyFrom_74, E_X10_copyFrom_77, E_X10_copyFrom_78, E_X10_copyFrom_80, E_X10_copyFrom_83, E_X10_copyFrom_84, E_X10_copyFrom_85, E_X10_copyFrom_86, E_X10_copyFrom_87, E_X10_copyFrom_90, E_X10_copyFrom_93, E_X10_copyFrom_94, E_X10_copyFrom_97, E_X10_copyFrom_98, E_X10_copyFrom_99, E_X10_copyFrom_100, E_X10_copyFrom_101, E_X10_copyFrom_104, E_X10_copyFrom_105, E_X10_copyFrom_106, E_X10_copyFrom_107, E_X10_copyFrom_108, E_X10_copyFrom_111, E_X10_copyFrom_114, E_X10_copyFrom_117, E_X10_copyFrom_118, E_X10_copyFrom_119, E_X10_copyFrom_122, E_X10_copyFrom_125, E_X10_copyFrom_126, E_X10_copyFrom_129, E_X10_copyFrom_130, E_X10_copyFrom_131, E_X10_copyFrom_134, E_X10_copyFrom_135, E_X10_copyFrom_137, E_X10_copyFrom_140, E_X10_copyFrom_141, E_X10_copyFrom_144, E_X10_copyFrom_145, E_X10_copyFrom_146, E_X10_copyFrom_149, E_X10_copyFrom_150, E_X10_copyFrom_152, E_X10_copyFrom_155, E_X10_copyFrom_156, E_X10_copyFrom_159, E_X10_copyFrom_160, E_X10_copyFrom_161, E_X10_copyFrom_164, E_X10_copyFrom_165, E_X10_copyFrom_167, E_X10_copyFrom_170, E_X10_copyFrom_171, E_X10_copyFrom_174, E_X10_copyFrom_175, E_X10_copyFrom_176, E_X10_copyFrom_179, E_X10_copyFrom_180, E_X10_copyFrom_182, E_X10_copyFrom_185, E_X10_copyFrom_186, E_X10_copyFrom_189, E_X10_copyFrom_190, E_X10_copyFrom_191, E_X10_copyFrom_194, E_X10_copyFrom_195, E_X10_copyFrom_197, E_X10_copyFrom_200, gy_gok hy, gy_gok hyz, yg_9 hyz, yg_10 hyz, yg_10 hy, yg_11 hyz, yg_11 hy, yg_12 hyz, yg_12 hy, yg_13 hyz, yg_13 hy, yg_14 hyz, yg_14 hy, yp_9 hy, c1, c2, c3, c4, c5, k1, k2, k3, k4, k5, e0, e8, gnk_r, Nat.reduceLT]
  refine hq _ _ ?_ ?_ ?_ (gC_sa (gC_sa (gC_sa (gC_sa (gC_sa (gC_si hC h9) hz (by decide)) hz (by decide)) hz (by decide)) hz (by decide)) hz (by decide)) rfl
  · exact fun a b h => Or.inl (Or.inl (Or.inl (Or.inl (Or.inl (Or.inl h)))))
  · exact Or.inl (Or.inl (Or.inl (Or.inl (Or.inl (Or.inr ⟨rfl, rfl⟩)))))
  · intro o j h1 h2 hj
    have ho : o = 12 ∨ o = 13 ∨ o = 14 ∨ o = 15 ∨ o = 16 := by omega
    rcases ho with rfl | rfl | rfl | rfl | rfl
    · exact Or.inl (Or.inl (Or.inl (Or.inl (Or.inr ⟨rfl, hj⟩))))
    · exact Or.inl (Or.inl (Or.inl (Or.inr ⟨rfl, hj⟩)))
    · exact Or.inl (Or.inl (Or.inr ⟨rfl, hj⟩))
    · exact Or.inl (Or.inr ⟨rfl, hj⟩)
    · exact Or.inr ⟨rfl, hj⟩
/-- Yard.copyFrom -/
theorem gy_copy (hz : gZ y z) (hR : gR s z f m p) (hk : gA_ok p) (hq : ∀ s' D, gC s s' y z D → gR s' y f m p → Q none (gm_m s')) : gc_X w d 57 0 [some (.ref y), some (.ref z), none] [] (gm_m s) Q := by
  have hk1 := hk.1
  have hk2 := hk.2.1
  refine gy_copyA hz hR (fun s1 D1 d2 d4 dw dc hC1 h1 => ?_)
  rw [← nI_0]
  refine gy_copyB hz hR hk p.1.2.1 0 s1 D1 (by omega) d4 hC1 h1 (fun i j hi => by omega) (fun s2 D2 l2 hD hrow hC2 h12 => ?_)
  refine gy_copyC hz hC2 (fun s3 D3 hD3 d9 dt hC3 e3 => ?_)
  refine hq s3 D3 hC3 (gC_R hR hz hC3 hk (by rw [e3]; exact h12) (hD3 _ _ (hD _ _ d2)) (hD3 _ _ (hD _ _ d4)) d9 (fun o j hj => ?_))
  unfold gA_in at hj
  rcases hj with ⟨rfl, hj⟩ | ⟨ho, hj⟩ | ⟨h1, h2, hj⟩ | ⟨h1, h2, hj⟩
  · exact hD3 _ _ (hD _ _ (dw j hj))
  · exact hD3 _ _ (hD _ _ (dc o j ho (by omega)))
  · have := hrow (o - 6) j (by omega) hj
    rw [show 6 + (o - 6) = o by omega] at this
    exact hD3 _ _ this
  · exact dt o j h1 h2 (by omega)
end
