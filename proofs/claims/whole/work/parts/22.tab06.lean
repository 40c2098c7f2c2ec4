/-! decoded, and each instruction a row -/
set_option maxRecDepth 20000 in
theorem dX12_swings_0 : decode cX12_swings 0 = .ok (.aload_n 0, 1) := by decide +kernel
set_option maxRecDepth 20000 in
theorem dX12_swings_1 : decode cX12_swings 1 = .ok (.getfield 44, 3) := by decide +kernel
set_option maxRecDepth 20000 in
theorem dX12_swings_4 : decode cX12_swings 4 = .ok (.iload_n 2, 1) := by decide +kernel
set_option maxRecDepth 20000 in
theorem dX12_swings_5 : decode cX12_swings 5 = .ok (.aload_n 0, 1) := by decide +kernel
set_option maxRecDepth 20000 in
theorem dX12_swings_6 : decode cX12_swings 6 = .ok (.aload_n 0, 1) := by decide +kernel
set_option maxRecDepth 20000 in
theorem dX12_swings_7 : decode cX12_swings 7 = .ok (.getfield 44, 3) := by decide +kernel
set_option maxRecDepth 20000 in
theorem dX12_swings_10 : decode cX12_swings 10 = .ok (.iload_n 2, 1) := by decide +kernel
set_option maxRecDepth 20000 in
theorem dX12_swings_11 : decode cX12_swings 11 = .ok (.iaload, 1) := by decide +kernel
set_option maxRecDepth 20000 in
theorem dX12_swings_12 : decode cX12_swings 12 = .ok (.aload_n 0, 1) := by decide +kernel
set_option maxRecDepth 20000 in
theorem dX12_swings_13 : decode cX12_swings 13 = .ok (.invokevirtual 335, 3) := by decide +kernel
set_option maxRecDepth 20000 in
theorem dX12_swings_16 : decode cX12_swings 16 = .ok (.iadd, 1) := by decide +kernel
set_option maxRecDepth 20000 in
theorem dX12_swings_17 : decode cX12_swings 17 = .ok (.bipush 99, 2) := by decide +kernel
set_option maxRecDepth 20000 in
theorem dX12_swings_19 : decode cX12_swings 19 = .ok (.invokevirtual 338, 3) := by decide +kernel
set_option maxRecDepth 20000 in
theorem dX12_swings_22 : decode cX12_swings 22 = .ok (.iastore, 1) := by decide +kernel
set_option maxRecDepth 20000 in
theorem dX12_swings_23 : decode cX12_swings 23 = .ok (.aload_n 0, 1) := by decide +kernel
set_option maxRecDepth 20000 in
theorem dX12_swings_24 : decode cX12_swings 24 = .ok (.getfield 47, 3) := by decide +kernel
set_option maxRecDepth 20000 in
theorem dX12_swings_27 : decode cX12_swings 27 = .ok (.iload_n 2, 1) := by decide +kernel
set_option maxRecDepth 20000 in
theorem dX12_swings_28 : decode cX12_swings 28 = .ok (.aload_n 0, 1) := by decide +kernel
set_option maxRecDepth 20000 in
theorem dX12_swings_29 : decode cX12_swings 29 = .ok (.aload_n 0, 1) := by decide +kernel
set_option maxRecDepth 20000 in
theorem dX12_swings_30 : decode cX12_swings 30 = .ok (.getfield 47, 3) := by decide +kernel
set_option maxRecDepth 20000 in
theorem dX12_swings_33 : decode cX12_swings 33 = .ok (.iload_n 2, 1) := by decide +kernel
set_option maxRecDepth 20000 in
theorem dX12_swings_34 : decode cX12_swings 34 = .ok (.iaload, 1) := by decide +kernel
set_option maxRecDepth 20000 in
theorem dX12_swings_35 : decode cX12_swings 35 = .ok (.iconst 1, 1) := by decide +kernel
set_option maxRecDepth 20000 in
theorem dX12_swings_36 : decode cX12_swings 36 = .ok (.iadd, 1) := by decide +kernel
set_option maxRecDepth 20000 in
theorem dX12_swings_37 : decode cX12_swings 37 = .ok (.bipush 99, 2) := by decide +kernel
set_option maxRecDepth 20000 in
theorem dX12_swings_39 : decode cX12_swings 39 = .ok (.invokevirtual 338, 3) := by decide +kernel
set_option maxRecDepth 20000 in
theorem dX12_swings_42 : decode cX12_swings 42 = .ok (.iastore, 1) := by decide +kernel
set_option maxRecDepth 20000 in
theorem dX12_swings_43 : decode cX12_swings 43 = .ok (.aload_n 0, 1) := by decide +kernel
set_option maxRecDepth 20000 in
theorem dX12_swings_44 : decode cX12_swings 44 = .ok (.getfield 44, 3) := by decide +kernel
set_option maxRecDepth 20000 in
theorem dX12_swings_47 : decode cX12_swings 47 = .ok (.iload_n 2, 1) := by decide +kernel
set_option maxRecDepth 20000 in
theorem dX12_swings_48 : decode cX12_swings 48 = .ok (.iaload, 1) := by decide +kernel
set_option maxRecDepth 20000 in
theorem dX12_swings_49 : decode cX12_swings 49 = .ok (.aload_n 0, 1) := by decide +kernel
set_option maxRecDepth 20000 in
theorem dX12_swings_50 : decode cX12_swings 50 = .ok (.invokevirtual 347, 3) := by decide +kernel
set_option maxRecDepth 20000 in
theorem dX12_swings_53 : decode cX12_swings 53 = .ok (.if_icmp .le 13, 3) := by decide +kernel
set_option maxRecDepth 20000 in
theorem dX12_swings_56 : decode cX12_swings 56 = .ok (.aload_n 0, 1) := by decide +kernel
set_option maxRecDepth 20000 in
theorem dX12_swings_57 : decode cX12_swings 57 = .ok (.getfield 41, 3) := by decide +kernel
set_option maxRecDepth 20000 in
theorem dX12_swings_60 : decode cX12_swings 60 = .ok (.iload_n 2, 1) := by decide +kernel
set_option maxRecDepth 20000 in
theorem dX12_swings_61 : decode cX12_swings 61 = .ok (.iconst 3, 1) := by decide +kernel
set_option maxRecDepth 20000 in
theorem dX12_swings_62 : decode cX12_swings 62 = .ok (.iastore, 1) := by decide +kernel
set_option maxRecDepth 20000 in
theorem dX12_swings_63 : decode cX12_swings 63 = .ok (.goto 45, 3) := by decide +kernel
set_option maxRecDepth 20000 in
theorem dX12_swings_66 : decode cX12_swings 66 = .ok (.aload_n 0, 1) := by decide +kernel
set_option maxRecDepth 20000 in
theorem dX12_swings_67 : decode cX12_swings 67 = .ok (.getfield 47, 3) := by decide +kernel
set_option maxRecDepth 20000 in
theorem dX12_swings_70 : decode cX12_swings 70 = .ok (.iload_n 2, 1) := by decide +kernel
set_option maxRecDepth 20000 in
theorem dX12_swings_71 : decode cX12_swings 71 = .ok (.iaload, 1) := by decide +kernel
set_option maxRecDepth 20000 in
theorem dX12_swings_72 : decode cX12_swings 72 = .ok (.aload_n 0, 1) := by decide +kernel
set_option maxRecDepth 20000 in
theorem dX12_swings_73 : decode cX12_swings 73 = .ok (.invokevirtual 350, 3) := by decide +kernel
set_option maxRecDepth 20000 in
theorem dX12_swings_76 : decode cX12_swings 76 = .ok (.if_icmp .lt 32, 3) := by decide +kernel
set_option maxRecDepth 20000 in
theorem dX12_swings_79 : decode cX12_swings 79 = .ok (.aload_n 0, 1) := by decide +kernel
set_option maxRecDepth 20000 in
theorem dX12_swings_80 : decode cX12_swings 80 = .ok (.getfield 41, 3) := by decide +kernel
set_option maxRecDepth 20000 in
theorem dX12_swings_83 : decode cX12_swings 83 = .ok (.iload_n 2, 1) := by decide +kernel
set_option maxRecDepth 20000 in
theorem dX12_swings_84 : decode cX12_swings 84 = .ok (.iconst 2, 1) := by decide +kernel
set_option maxRecDepth 20000 in
theorem dX12_swings_85 : decode cX12_swings 85 = .ok (.iastore, 1) := by decide +kernel
set_option maxRecDepth 20000 in
theorem dX12_swings_86 : decode cX12_swings 86 = .ok (.aload_n 0, 1) := by decide +kernel
set_option maxRecDepth 20000 in
theorem dX12_swings_87 : decode cX12_swings 87 = .ok (.getfield 29, 3) := by decide +kernel
set_option maxRecDepth 20000 in
theorem dX12_swings_90 : decode cX12_swings 90 = .ok (.iload_n 1, 1) := by decide +kernel
set_option maxRecDepth 20000 in
theorem dX12_swings_91 : decode cX12_swings 91 = .ok (.aload_n 0, 1) := by decide +kernel
set_option maxRecDepth 20000 in
theorem dX12_swings_92 : decode cX12_swings 92 = .ok (.aload_n 0, 1) := by decide +kernel
set_option maxRecDepth 20000 in
theorem dX12_swings_93 : decode cX12_swings 93 = .ok (.getfield 29, 3) := by decide +kernel
set_option maxRecDepth 20000 in
theorem dX12_swings_96 : decode cX12_swings 96 = .ok (.iload_n 1, 1) := by decide +kernel
set_option maxRecDepth 20000 in
theorem dX12_swings_97 : decode cX12_swings 97 = .ok (.iaload, 1) := by decide +kernel
set_option maxRecDepth 20000 in
theorem dX12_swings_98 : decode cX12_swings 98 = .ok (.iconst 1, 1) := by decide +kernel
set_option maxRecDepth 20000 in
theorem dX12_swings_99 : decode cX12_swings 99 = .ok (.iadd, 1) := by decide +kernel
set_option maxRecDepth 20000 in
theorem dX12_swings_100 : decode cX12_swings 100 = .ok (.aload_n 0, 1) := by decide +kernel
set_option maxRecDepth 20000 in
theorem dX12_swings_101 : decode cX12_swings 101 = .ok (.getfield 105, 3) := by decide +kernel
set_option maxRecDepth 20000 in
theorem dX12_swings_104 : decode cX12_swings 104 = .ok (.invokevirtual 338, 3) := by decide +kernel
set_option maxRecDepth 20000 in
theorem dX12_swings_107 : decode cX12_swings 107 = .ok (.iastore, 1) := by decide +kernel
set_option maxRecDepth 20000 in
theorem dX12_swings_108 : decode cX12_swings 108 = .ok (.return_, 1) := by decide +kernel
set_option maxRecDepth 20000 in
theorem kt_X12_swings_0 (g : gx_T) : ∀ q ∈ k_X12_swings_0, gx_E g gc_md RX12 cX12_swings 3 (none) "swings" q.1 q.2 := List.forall_mem_cons.mpr ⟨(gs_aload_n dX12_swings_0 rfl), List.forall_mem_cons.mpr ⟨
  (gs_gf (ref := "GriefCranesModel") dX12_swings_1 (gx_mem 1008 (by decide +kernel) (by decide +kernel)) (Or.inl rfl) gf_12_11), List.forall_mem_cons.mpr ⟨
  (gs_iload_n dX12_swings_4 rfl), List.forall_mem_cons.mpr ⟨
  (gs_aload_n dX12_swings_5 rfl), List.forall_mem_cons.mpr ⟨
  (gs_aload_n dX12_swings_6 rfl), List.forall_mem_cons.mpr ⟨
  (gs_gf (ref := "GriefCranesModel") dX12_swings_7 (gx_mem 1008 (by decide +kernel) (by decide +kernel)) (Or.inl rfl) gf_12_11), List.forall_mem_cons.mpr ⟨
  (gs_iload_n dX12_swings_10 rfl), List.forall_mem_cons.mpr ⟨
  (gs_iaload dX12_swings_11), List.forall_mem_cons.mpr ⟨
  (gs_aload_n dX12_swings_12 rfl), List.forall_mem_cons.mpr ⟨
  (gs_cv dX12_swings_13 (fun q hq => by
      simp only [List.mem_cons, List.not_mem_nil, or_false] at hq
      subst hq
      exact Or.inl ⟨_, rfl, by decide, by decide +kernel, by decide +kernel, List.forall_mem_cons.mpr ⟨gx_mem 1364 (by decide +kernel) (by decide +kernel), List.forall_mem_cons.mpr ⟨gx_mem 1366 (by decide +kernel) (by decide +kernel), List.forall_mem_cons.mpr ⟨gx_mem 45 (by decide +kernel) (by decide +kernel), List.forall_mem_cons.mpr ⟨gx_mem 96 (by decide +kernel) (by decide +kernel), List.forall_mem_cons.mpr ⟨cw_1367, fun _ h => absurd h List.not_mem_nil⟩⟩⟩⟩⟩⟩)), List.forall_mem_cons.mpr ⟨
  (gs_iadd dX12_swings_16), List.forall_mem_cons.mpr ⟨
  (gs_bipush dX12_swings_17 rfl), List.forall_mem_cons.mpr ⟨
  (gs_cv dX12_swings_19 (fun q hq => by
      simp only [List.mem_cons, List.not_mem_nil, or_false] at hq
      subst hq
      exact Or.inl ⟨_, rfl, by decide, by decide +kernel, by decide +kernel, List.forall_mem_cons.mpr ⟨gx_mem 1368 (by decide +kernel) (by decide +kernel), List.forall_mem_cons.mpr ⟨gx_mem 1370 (by decide +kernel) (by decide +kernel), List.forall_mem_cons.mpr ⟨gx_mem 46 (by decide +kernel) (by decide +kernel), List.forall_mem_cons.mpr ⟨gx_mem 96 (by decide +kernel) (by decide +kernel), List.forall_mem_cons.mpr ⟨cw_1371, fun _ h => absurd h List.not_mem_nil⟩⟩⟩⟩⟩⟩)), List.forall_mem_cons.mpr ⟨
  (gs_iastore dX12_swings_22), List.forall_mem_cons.mpr ⟨
  (gs_aload_n dX12_swings_23 rfl), List.forall_mem_cons.mpr ⟨
  (gs_gf (ref := "GriefCranesModel") dX12_swings_24 (gx_mem 1009 (by decide +kernel) (by decide +kernel)) (Or.inl rfl) gf_12_12), List.forall_mem_cons.mpr ⟨
  (gs_iload_n dX12_swings_27 rfl), List.forall_mem_cons.mpr ⟨
  (gs_aload_n dX12_swings_28 rfl), List.forall_mem_cons.mpr ⟨
  (gs_aload_n dX12_swings_29 rfl), List.forall_mem_cons.mpr ⟨
  (gs_gf (ref := "GriefCranesModel") dX12_swings_30 (gx_mem 1009 (by decide +kernel) (by decide +kernel)) (Or.inl rfl) gf_12_12), List.forall_mem_cons.mpr ⟨
  (gs_iload_n dX12_swings_33 rfl), List.forall_mem_cons.mpr ⟨
  (gs_iaload dX12_swings_34), List.forall_mem_cons.mpr ⟨
  (gs_iconst dX12_swings_35 rfl), List.forall_mem_cons.mpr ⟨
  (gs_iadd dX12_swings_36), List.forall_mem_cons.mpr ⟨
  (gs_bipush dX12_swings_37 rfl), List.forall_mem_cons.mpr ⟨
  (gs_cv dX12_swings_39 (fun q hq => by
      simp only [List.mem_cons, List.not_mem_nil, or_false] at hq
      subst hq
      exact Or.inl ⟨_, rfl, by decide, by decide +kernel, by decide +kernel, List.forall_mem_cons.mpr ⟨gx_mem 1368 (by decide +kernel) (by decide +kernel), List.forall_mem_cons.mpr ⟨gx_mem 1370 (by decide +kernel) (by decide +kernel), List.forall_mem_cons.mpr ⟨gx_mem 46 (by decide +kernel) (by decide +kernel), List.forall_mem_cons.mpr ⟨gx_mem 96 (by decide +kernel) (by decide +kernel), List.forall_mem_cons.mpr ⟨cw_1371, fun _ h => absurd h List.not_mem_nil⟩⟩⟩⟩⟩⟩)), List.forall_mem_cons.mpr ⟨
  (gs_iastore dX12_swings_42), List.forall_mem_cons.mpr ⟨
  (gs_aload_n dX12_swings_43 rfl), List.forall_mem_cons.mpr ⟨
  (gs_gf (ref := "GriefCranesModel") dX12_swings_44 (gx_mem 1008 (by decide +kernel) (by decide +kernel)) (Or.inl rfl) gf_12_11), List.forall_mem_cons.mpr ⟨
  (gs_iload_n dX12_swings_47 rfl), List.forall_mem_cons.mpr ⟨
  (gs_iaload dX12_swings_48), List.forall_mem_cons.mpr ⟨
  (gs_aload_n dX12_swings_49 rfl), fun _ h => absurd h List.not_mem_nil⟩⟩⟩⟩⟩⟩⟩⟩⟩⟩⟩⟩⟩⟩⟩⟩⟩⟩⟩⟩⟩⟩⟩⟩⟩⟩⟩⟩⟩⟩⟩⟩
set_option maxRecDepth 20000 in
theorem kt_X12_swings_1 (g : gx_T) : ∀ q ∈ k_X12_swings_1, gx_E g gc_md RX12 cX12_swings 3 (none) "swings" q.1 q.2 := List.forall_mem_cons.mpr ⟨(gs_cv dX12_swings_50 (fun q hq => by
      simp only [List.mem_cons, List.not_mem_nil, or_false] at hq
      subst hq
      exact Or.inl ⟨_, rfl, by decide, by decide +kernel, by decide +kernel, List.forall_mem_cons.mpr ⟨gx_mem 1396 (by decide +kernel) (by decide +kernel), List.forall_mem_cons.mpr ⟨gx_mem 1398 (by decide +kernel) (by decide +kernel), List.forall_mem_cons.mpr ⟨gx_mem 52 (by decide +kernel) (by decide +kernel), List.forall_mem_cons.mpr ⟨gx_mem 96 (by decide +kernel) (by decide +kernel), List.forall_mem_cons.mpr ⟨cw_1399, fun _ h => absurd h List.not_mem_nil⟩⟩⟩⟩⟩⟩)), List.forall_mem_cons.mpr ⟨
  (gs_icmp_le dX12_swings_53 rfl), List.forall_mem_cons.mpr ⟨
  (gs_aload_n dX12_swings_56 rfl), List.forall_mem_cons.mpr ⟨
  (gs_gf (ref := "GriefCranesModel") dX12_swings_57 (gx_mem 1007 (by decide +kernel) (by decide +kernel)) (Or.inl rfl) gf_12_10), List.forall_mem_cons.mpr ⟨
  (gs_iload_n dX12_swings_60 rfl), List.forall_mem_cons.mpr ⟨
  (gs_iconst dX12_swings_61 rfl), List.forall_mem_cons.mpr ⟨
  (gs_iastore dX12_swings_62), List.forall_mem_cons.mpr ⟨
  (gs_goto dX12_swings_63 rfl), List.forall_mem_cons.mpr ⟨
  (gs_aload_n dX12_swings_66 rfl), List.forall_mem_cons.mpr ⟨
  (gs_gf (ref := "GriefCranesModel") dX12_swings_67 (gx_mem 1009 (by decide +kernel) (by decide +kernel)) (Or.inl rfl) gf_12_12), List.forall_mem_cons.mpr ⟨
  (gs_iload_n dX12_swings_70 rfl), List.forall_mem_cons.mpr ⟨
  (gs_iaload dX12_swings_71), List.forall_mem_cons.mpr ⟨
  (gs_aload_n dX12_swings_72 rfl), List.forall_mem_cons.mpr ⟨
  (gs_cv dX12_swings_73 (fun q hq => by
      simp only [List.mem_cons, List.not_mem_nil, or_false] at hq
      subst hq
      exact Or.inl ⟨_, rfl, by decide, by decide +kernel, by decide +kernel, List.forall_mem_cons.mpr ⟨gx_mem 1404 (by decide +kernel) (by decide +kernel), List.forall_mem_cons.mpr ⟨gx_mem 1406 (by decide +kernel) (by decide +kernel), List.forall_mem_cons.mpr ⟨gx_mem 54 (by decide +kernel) (by decide +kernel), List.forall_mem_cons.mpr ⟨gx_mem 96 (by decide +kernel) (by decide +kernel), List.forall_mem_cons.mpr ⟨cw_1407, fun _ h => absurd h List.not_mem_nil⟩⟩⟩⟩⟩⟩)), List.forall_mem_cons.mpr ⟨
  (gs_icmp_lt dX12_swings_76 rfl), List.forall_mem_cons.mpr ⟨
  (gs_aload_n dX12_swings_79 rfl), List.forall_mem_cons.mpr ⟨
  (gs_gf (ref := "GriefCranesModel") dX12_swings_80 (gx_mem 1007 (by decide +kernel) (by decide +kernel)) (Or.inl rfl) gf_12_10), List.forall_mem_cons.mpr ⟨
  (gs_iload_n dX12_swings_83 rfl), List.forall_mem_cons.mpr ⟨
  (gs_iconst dX12_swings_84 rfl), List.forall_mem_cons.mpr ⟨
  (gs_iastore dX12_swings_85), List.forall_mem_cons.mpr ⟨
  (gs_aload_n dX12_swings_86 rfl), List.forall_mem_cons.mpr ⟨
  (gs_gf (ref := "GriefCranesModel") dX12_swings_87 (gx_mem 1003 (by decide +kernel) (by decide +kernel)) (Or.inl rfl) gf_12_6), List.forall_mem_cons.mpr ⟨
  (gs_iload_n dX12_swings_90 rfl), List.forall_mem_cons.mpr ⟨
  (gs_aload_n dX12_swings_91 rfl), List.forall_mem_cons.mpr ⟨
  (gs_aload_n dX12_swings_92 rfl), List.forall_mem_cons.mpr ⟨
  (gs_gf (ref := "GriefCranesModel") dX12_swings_93 (gx_mem 1003 (by decide +kernel) (by decide +kernel)) (Or.inl rfl) gf_12_6), List.forall_mem_cons.mpr ⟨
  (gs_iload_n dX12_swings_96 rfl), List.forall_mem_cons.mpr ⟨
  (gs_iaload dX12_swings_97), List.forall_mem_cons.mpr ⟨
  (gs_iconst dX12_swings_98 rfl), List.forall_mem_cons.mpr ⟨
  (gs_iadd dX12_swings_99), List.forall_mem_cons.mpr ⟨
  (gs_aload_n dX12_swings_100 rfl), List.forall_mem_cons.mpr ⟨
  (gs_gf (ref := "GriefCranesModel") dX12_swings_101 (gx_mem 1028 (by decide +kernel) (by decide +kernel)) (Or.inl rfl) gf_12_31), fun _ h => absurd h List.not_mem_nil⟩⟩⟩⟩⟩⟩⟩⟩⟩⟩⟩⟩⟩⟩⟩⟩⟩⟩⟩⟩⟩⟩⟩⟩⟩⟩⟩⟩⟩⟩⟩⟩
set_option maxRecDepth 20000 in
theorem kt_X12_swings_2 (g : gx_T) : ∀ q ∈ k_X12_swings_2, gx_E g gc_md RX12 cX12_swings 3 (none) "swings" q.1 q.2 := List.forall_mem_cons.mpr ⟨(gs_cv dX12_swings_104 (fun q hq => by
      simp only [List.mem_cons, List.not_mem_nil, or_false] at hq
      subst hq
      exact Or.inl ⟨_, rfl, by decide, by decide +kernel, by decide +kernel, List.forall_mem_cons.mpr ⟨gx_mem 1368 (by decide +kernel) (by decide +kernel), List.forall_mem_cons.mpr ⟨gx_mem 1370 (by decide +kernel) (by decide +kernel), List.forall_mem_cons.mpr ⟨gx_mem 46 (by decide +kernel) (by decide +kernel), List.forall_mem_cons.mpr ⟨gx_mem 96 (by decide +kernel) (by decide +kernel), List.forall_mem_cons.mpr ⟨cw_1371, fun _ h => absurd h List.not_mem_nil⟩⟩⟩⟩⟩⟩)), List.forall_mem_cons.mpr ⟨
  (gs_iastore dX12_swings_107), List.forall_mem_cons.mpr ⟨
  (gs_rv dX12_swings_108), fun _ h => absurd h List.not_mem_nil⟩⟩⟩
theorem kt_X12_swings (g : gx_T) : ∀ q ∈ k_X12_swings, gx_E g gc_md RX12 cX12_swings 3 (none) "swings" q.1 q.2 := List.forall_mem_append.mpr ⟨kt_X12_swings_0 g, List.forall_mem_append.mpr ⟨kt_X12_swings_1 g, kt_X12_swings_2 g⟩⟩
set_option maxRecDepth 20000 in
theorem dX12_hangs_0 : decode cX12_hangs 0 = .ok (.iconst 0, 1) := by decide +kernel
set_option maxRecDepth 20000 in
theorem dX12_hangs_1 : decode cX12_hangs 1 = .ok (.istore_n 2, 1) := by decide +kernel
set_option maxRecDepth 20000 in
theorem dX12_hangs_2 : decode cX12_hangs 2 = .ok (.iload_n 2, 1) := by decide +kernel
set_option maxRecDepth 20000 in
theorem dX12_hangs_3 : decode cX12_hangs 3 = .ok (.aload_n 0, 1) := by decide +kernel
set_option maxRecDepth 20000 in
theorem dX12_hangs_4 : decode cX12_hangs 4 = .ok (.getfield 13, 3) := by decide +kernel
set_option maxRecDepth 20000 in
theorem dX12_hangs_7 : decode cX12_hangs 7 = .ok (.if_icmp .ge 68, 3) := by decide +kernel
set_option maxRecDepth 20000 in
theorem dX12_hangs_10 : decode cX12_hangs 10 = .ok (.aload_n 0, 1) := by decide +kernel
set_option maxRecDepth 20000 in
theorem dX12_hangs_11 : decode cX12_hangs 11 = .ok (.getfield 41, 3) := by decide +kernel
set_option maxRecDepth 20000 in
theorem dX12_hangs_14 : decode cX12_hangs 14 = .ok (.iload_n 2, 1) := by decide +kernel
set_option maxRecDepth 20000 in
theorem dX12_hangs_15 : decode cX12_hangs 15 = .ok (.iaload, 1) := by decide +kernel
set_option maxRecDepth 20000 in
theorem dX12_hangs_16 : decode cX12_hangs 16 = .ok (.ifCond .ne 53, 3) := by decide +kernel
set_option maxRecDepth 20000 in
theorem dX12_hangs_19 : decode cX12_hangs 19 = .ok (.aload_n 0, 1) := by decide +kernel
set_option maxRecDepth 20000 in
theorem dX12_hangs_20 : decode cX12_hangs 20 = .ok (.getfield 38, 3) := by decide +kernel
set_option maxRecDepth 20000 in
theorem dX12_hangs_23 : decode cX12_hangs 23 = .ok (.iload_n 2, 1) := by decide +kernel
set_option maxRecDepth 20000 in
theorem dX12_hangs_24 : decode cX12_hangs 24 = .ok (.iaload, 1) := by decide +kernel
set_option maxRecDepth 20000 in
theorem dX12_hangs_25 : decode cX12_hangs 25 = .ok (.iload_n 1, 1) := by decide +kernel
set_option maxRecDepth 20000 in
theorem dX12_hangs_26 : decode cX12_hangs 26 = .ok (.if_icmp .ne 43, 3) := by decide +kernel
set_option maxRecDepth 20000 in
theorem dX12_hangs_29 : decode cX12_hangs 29 = .ok (.aload_n 0, 1) := by decide +kernel
set_option maxRecDepth 20000 in
theorem dX12_hangs_30 : decode cX12_hangs 30 = .ok (.iload_n 1, 1) := by decide +kernel
set_option maxRecDepth 20000 in
theorem dX12_hangs_31 : decode cX12_hangs 31 = .ok (.iload_n 2, 1) := by decide +kernel
set_option maxRecDepth 20000 in
theorem dX12_hangs_32 : decode cX12_hangs 32 = .ok (.invokevirtual 341, 3) := by decide +kernel
set_option maxRecDepth 20000 in
theorem dX12_hangs_35 : decode cX12_hangs 35 = .ok (.aload_n 0, 1) := by decide +kernel
set_option maxRecDepth 20000 in
theorem dX12_hangs_36 : decode cX12_hangs 36 = .ok (.getfield 35, 3) := by decide +kernel
set_option maxRecDepth 20000 in
theorem dX12_hangs_39 : decode cX12_hangs 39 = .ok (.iload_n 2, 1) := by decide +kernel
set_option maxRecDepth 20000 in
theorem dX12_hangs_40 : decode cX12_hangs 40 = .ok (.iaload, 1) := by decide +kernel
set_option maxRecDepth 20000 in
theorem dX12_hangs_41 : decode cX12_hangs 41 = .ok (.if_icmp .ge 6, 3) := by decide +kernel
set_option maxRecDepth 20000 in
theorem dX12_hangs_44 : decode cX12_hangs 44 = .ok (.goto 25, 3) := by decide +kernel
set_option maxRecDepth 20000 in
theorem dX12_hangs_47 : decode cX12_hangs 47 = .ok (.aload_n 0, 1) := by decide +kernel
set_option maxRecDepth 20000 in
theorem dX12_hangs_48 : decode cX12_hangs 48 = .ok (.getfield 41, 3) := by decide +kernel
set_option maxRecDepth 20000 in
theorem dX12_hangs_51 : decode cX12_hangs 51 = .ok (.iload_n 2, 1) := by decide +kernel
set_option maxRecDepth 20000 in
theorem dX12_hangs_52 : decode cX12_hangs 52 = .ok (.iconst 1, 1) := by decide +kernel
set_option maxRecDepth 20000 in
theorem dX12_hangs_53 : decode cX12_hangs 53 = .ok (.iastore, 1) := by decide +kernel
set_option maxRecDepth 20000 in
theorem dX12_hangs_54 : decode cX12_hangs 54 = .ok (.aload_n 0, 1) := by decide +kernel
set_option maxRecDepth 20000 in
theorem dX12_hangs_55 : decode cX12_hangs 55 = .ok (.getfield 44, 3) := by decide +kernel
set_option maxRecDepth 20000 in
theorem dX12_hangs_58 : decode cX12_hangs 58 = .ok (.iload_n 2, 1) := by decide +kernel
set_option maxRecDepth 20000 in
theorem dX12_hangs_59 : decode cX12_hangs 59 = .ok (.iconst 0, 1) := by decide +kernel
set_option maxRecDepth 20000 in
theorem dX12_hangs_60 : decode cX12_hangs 60 = .ok (.iastore, 1) := by decide +kernel
set_option maxRecDepth 20000 in
theorem dX12_hangs_61 : decode cX12_hangs 61 = .ok (.aload_n 0, 1) := by decide +kernel
set_option maxRecDepth 20000 in
theorem dX12_hangs_62 : decode cX12_hangs 62 = .ok (.getfield 47, 3) := by decide +kernel
set_option maxRecDepth 20000 in
theorem dX12_hangs_65 : decode cX12_hangs 65 = .ok (.iload_n 2, 1) := by decide +kernel
set_option maxRecDepth 20000 in
theorem dX12_hangs_66 : decode cX12_hangs 66 = .ok (.iconst 0, 1) := by decide +kernel
set_option maxRecDepth 20000 in
theorem dX12_hangs_67 : decode cX12_hangs 67 = .ok (.iastore, 1) := by decide +kernel
set_option maxRecDepth 20000 in
theorem dX12_hangs_68 : decode cX12_hangs 68 = .ok (.return_, 1) := by decide +kernel
set_option maxRecDepth 20000 in
theorem dX12_hangs_69 : decode cX12_hangs 69 = .ok (.iinc 2 1, 3) := by decide +kernel
set_option maxRecDepth 20000 in
theorem dX12_hangs_72 : decode cX12_hangs 72 = .ok (.goto (-70), 3) := by decide +kernel
set_option maxRecDepth 20000 in
theorem dX12_hangs_75 : decode cX12_hangs 75 = .ok (.return_, 1) := by decide +kernel
set_option maxRecDepth 20000 in
theorem kt_X12_hangs_0 (g : gx_T) : ∀ q ∈ k_X12_hangs_0, gx_E g gc_md RX12 cX12_hangs 3 (none) "hangs" q.1 q.2 := List.forall_mem_cons.mpr ⟨(gs_iconst dX12_hangs_0 rfl), List.forall_mem_cons.mpr ⟨
  (gs_istore_n dX12_hangs_1 rfl), List.forall_mem_cons.mpr ⟨
  (gs_iload_n dX12_hangs_2 rfl), List.forall_mem_cons.mpr ⟨
  (gs_aload_n dX12_hangs_3 rfl), List.forall_mem_cons.mpr ⟨
  (gs_gf (ref := "GriefCranesModel") dX12_hangs_4 (gx_mem 998 (by decide +kernel) (by decide +kernel)) (Or.inl rfl) gf_12_1), List.forall_mem_cons.mpr ⟨
  (gs_icmp_ge dX12_hangs_7 rfl), List.forall_mem_cons.mpr ⟨
  (gs_aload_n dX12_hangs_10 rfl), List.forall_mem_cons.mpr ⟨
  (gs_gf (ref := "GriefCranesModel") dX12_hangs_11 (gx_mem 1007 (by decide +kernel) (by decide +kernel)) (Or.inl rfl) gf_12_10), List.forall_mem_cons.mpr ⟨
  (gs_iload_n dX12_hangs_14 rfl), List.forall_mem_cons.mpr ⟨
  (gs_iaload dX12_hangs_15), List.forall_mem_cons.mpr ⟨
  (gs_if_ne dX12_hangs_16 rfl), List.forall_mem_cons.mpr ⟨
  (gs_aload_n dX12_hangs_19 rfl), List.forall_mem_cons.mpr ⟨
  (gs_gf (ref := "GriefCranesModel") dX12_hangs_20 (gx_mem 1006 (by decide +kernel) (by decide +kernel)) (Or.inl rfl) gf_12_9), List.forall_mem_cons.mpr ⟨
  (gs_iload_n dX12_hangs_23 rfl), List.forall_mem_cons.mpr ⟨
  (gs_iaload dX12_hangs_24), List.forall_mem_cons.mpr ⟨
  (gs_iload_n dX12_hangs_25 rfl), List.forall_mem_cons.mpr ⟨
  (gs_icmp_ne dX12_hangs_26 rfl), List.forall_mem_cons.mpr ⟨
  (gs_aload_n dX12_hangs_29 rfl), List.forall_mem_cons.mpr ⟨
  (gs_iload_n dX12_hangs_30 rfl), List.forall_mem_cons.mpr ⟨
  (gs_iload_n dX12_hangs_31 rfl), List.forall_mem_cons.mpr ⟨
  (gs_cv dX12_hangs_32 (fun q hq => by
      simp only [List.mem_cons, List.not_mem_nil, or_false] at hq
      subst hq
      exact Or.inl ⟨_, rfl, by decide, by decide +kernel, by decide +kernel, List.forall_mem_cons.mpr ⟨gx_mem 1340 (by decide +kernel) (by decide +kernel), List.forall_mem_cons.mpr ⟨gx_mem 1342 (by decide +kernel) (by decide +kernel), List.forall_mem_cons.mpr ⟨gx_mem 39 (by decide +kernel) (by decide +kernel), List.forall_mem_cons.mpr ⟨gx_mem 96 (by decide +kernel) (by decide +kernel), List.forall_mem_cons.mpr ⟨cw_1343, fun _ h => absurd h List.not_mem_nil⟩⟩⟩⟩⟩⟩)), List.forall_mem_cons.mpr ⟨
  (gs_aload_n dX12_hangs_35 rfl), List.forall_mem_cons.mpr ⟨
  (gs_gf (ref := "GriefCranesModel") dX12_hangs_36 (gx_mem 1005 (by decide +kernel) (by decide +kernel)) (Or.inl rfl) gf_12_8), List.forall_mem_cons.mpr ⟨
  (gs_iload_n dX12_hangs_39 rfl), List.forall_mem_cons.mpr ⟨
  (gs_iaload dX12_hangs_40), List.forall_mem_cons.mpr ⟨
  (gs_icmp_ge dX12_hangs_41 rfl), List.forall_mem_cons.mpr ⟨
  (gs_goto dX12_hangs_44 rfl), List.forall_mem_cons.mpr ⟨
  (gs_aload_n dX12_hangs_47 rfl), List.forall_mem_cons.mpr ⟨
  (gs_gf (ref := "GriefCranesModel") dX12_hangs_48 (gx_mem 1007 (by decide +kernel) (by decide +kernel)) (Or.inl rfl) gf_12_10), List.forall_mem_cons.mpr ⟨
  (gs_iload_n dX12_hangs_51 rfl), List.forall_mem_cons.mpr ⟨
  (gs_iconst dX12_hangs_52 rfl), List.forall_mem_cons.mpr ⟨
  (gs_iastore dX12_hangs_53), fun _ h => absurd h List.not_mem_nil⟩⟩⟩⟩⟩⟩⟩⟩⟩⟩⟩⟩⟩⟩⟩⟩⟩⟩⟩⟩⟩⟩⟩⟩⟩⟩⟩⟩⟩⟩⟩⟩
set_option maxRecDepth 20000 in
theorem kt_X12_hangs_1 (g : gx_T) : ∀ q ∈ k_X12_hangs_1, gx_E g gc_md RX12 cX12_hangs 3 (none) "hangs" q.1 q.2 := List.forall_mem_cons.mpr ⟨(gs_aload_n dX12_hangs_54 rfl), List.forall_mem_cons.mpr ⟨
  (gs_gf (ref := "GriefCranesModel") dX12_hangs_55 (gx_mem 1008 (by decide +kernel) (by decide +kernel)) (Or.inl rfl) gf_12_11), List.forall_mem_cons.mpr ⟨
  (gs_iload_n dX12_hangs_58 rfl), List.forall_mem_cons.mpr ⟨
  (gs_iconst dX12_hangs_59 rfl), List.forall_mem_cons.mpr ⟨
  (gs_iastore dX12_hangs_60), List.forall_mem_cons.mpr ⟨
  (gs_aload_n dX12_hangs_61 rfl), List.forall_mem_cons.mpr ⟨
  (gs_gf (ref := "GriefCranesModel") dX12_hangs_62 (gx_mem 1009 (by decide +kernel) (by decide +kernel)) (Or.inl rfl) gf_12_12), List.forall_mem_cons.mpr ⟨
  (gs_iload_n dX12_hangs_65 rfl), List.forall_mem_cons.mpr ⟨
  (gs_iconst dX12_hangs_66 rfl), List.forall_mem_cons.mpr ⟨
  (gs_iastore dX12_hangs_67), List.forall_mem_cons.mpr ⟨
  (gs_rv dX12_hangs_68), List.forall_mem_cons.mpr ⟨
  (gs_iinc dX12_hangs_69), List.forall_mem_cons.mpr ⟨
  (gs_goto dX12_hangs_72 rfl), List.forall_mem_cons.mpr ⟨
  (gs_rv dX12_hangs_75), fun _ h => absurd h List.not_mem_nil⟩⟩⟩⟩⟩⟩⟩⟩⟩⟩⟩⟩⟩⟩
theorem kt_X12_hangs (g : gx_T) : ∀ q ∈ k_X12_hangs, gx_E g gc_md RX12 cX12_hangs 3 (none) "hangs" q.1 q.2 := List.forall_mem_append.mpr ⟨kt_X12_hangs_0 g, kt_X12_hangs_1 g⟩
set_option maxRecDepth 20000 in
theorem dX12_goHour_0 : decode cX12_goHour 0 = .ok (.iconst 0, 1) := by decide +kernel
set_option maxRecDepth 20000 in
theorem dX12_goHour_1 : decode cX12_goHour 1 = .ok (.istore_n 1, 1) := by decide +kernel
set_option maxRecDepth 20000 in
theorem dX12_goHour_2 : decode cX12_goHour 2 = .ok (.iload_n 1, 1) := by decide +kernel
set_option maxRecDepth 20000 in
theorem dX12_goHour_3 : decode cX12_goHour 3 = .ok (.aload_n 0, 1) := by decide +kernel
set_option maxRecDepth 20000 in
theorem dX12_goHour_4 : decode cX12_goHour 4 = .ok (.getfield 7, 3) := by decide +kernel
set_option maxRecDepth 20000 in
theorem dX12_goHour_7 : decode cX12_goHour 7 = .ok (.if_icmp .ge 33, 3) := by decide +kernel
set_option maxRecDepth 20000 in
theorem dX12_goHour_10 : decode cX12_goHour 10 = .ok (.aload_n 0, 1) := by decide +kernel
set_option maxRecDepth 20000 in
theorem dX12_goHour_11 : decode cX12_goHour 11 = .ok (.iload_n 1, 1) := by decide +kernel
set_option maxRecDepth 20000 in
theorem dX12_goHour_12 : decode cX12_goHour 12 = .ok (.invokevirtual 344, 3) := by decide +kernel
set_option maxRecDepth 20000 in
theorem dX12_goHour_15 : decode cX12_goHour 15 = .ok (.istore_n 2, 1) := by decide +kernel
set_option maxRecDepth 20000 in
theorem dX12_goHour_16 : decode cX12_goHour 16 = .ok (.iload_n 2, 1) := by decide +kernel
set_option maxRecDepth 20000 in
theorem dX12_goHour_17 : decode cX12_goHour 17 = .ok (.ifCond .lt 12, 3) := by decide +kernel
set_option maxRecDepth 20000 in
theorem dX12_goHour_20 : decode cX12_goHour 20 = .ok (.aload_n 0, 1) := by decide +kernel
set_option maxRecDepth 20000 in
theorem dX12_goHour_21 : decode cX12_goHour 21 = .ok (.iload_n 1, 1) := by decide +kernel
set_option maxRecDepth 20000 in
theorem dX12_goHour_22 : decode cX12_goHour 22 = .ok (.iload_n 2, 1) := by decide +kernel
set_option maxRecDepth 20000 in
theorem dX12_goHour_23 : decode cX12_goHour 23 = .ok (.invokevirtual 353, 3) := by decide +kernel
set_option maxRecDepth 20000 in
theorem dX12_goHour_26 : decode cX12_goHour 26 = .ok (.goto 8, 3) := by decide +kernel
set_option maxRecDepth 20000 in
theorem dX12_goHour_29 : decode cX12_goHour 29 = .ok (.aload_n 0, 1) := by decide +kernel
set_option maxRecDepth 20000 in
theorem dX12_goHour_30 : decode cX12_goHour 30 = .ok (.iload_n 1, 1) := by decide +kernel
set_option maxRecDepth 20000 in
theorem dX12_goHour_31 : decode cX12_goHour 31 = .ok (.invokevirtual 357, 3) := by decide +kernel
set_option maxRecDepth 20000 in
theorem dX12_goHour_34 : decode cX12_goHour 34 = .ok (.iinc 1 1, 3) := by decide +kernel
set_option maxRecDepth 20000 in
theorem dX12_goHour_37 : decode cX12_goHour 37 = .ok (.goto (-35), 3) := by decide +kernel
set_option maxRecDepth 20000 in
theorem dX12_goHour_40 : decode cX12_goHour 40 = .ok (.aload_n 0, 1) := by decide +kernel
set_option maxRecDepth 20000 in
theorem dX12_goHour_41 : decode cX12_goHour 41 = .ok (.dup, 1) := by decide +kernel
set_option maxRecDepth 20000 in
theorem dX12_goHour_42 : decode cX12_goHour 42 = .ok (.getfield 16, 3) := by decide +kernel
set_option maxRecDepth 20000 in
theorem dX12_goHour_45 : decode cX12_goHour 45 = .ok (.iconst 1, 1) := by decide +kernel
set_option maxRecDepth 20000 in
theorem dX12_goHour_46 : decode cX12_goHour 46 = .ok (.iadd, 1) := by decide +kernel
set_option maxRecDepth 20000 in
theorem dX12_goHour_47 : decode cX12_goHour 47 = .ok (.putfield 16, 3) := by decide +kernel
set_option maxRecDepth 20000 in
theorem dX12_goHour_50 : decode cX12_goHour 50 = .ok (.return_, 1) := by decide +kernel
set_option maxRecDepth 20000 in
theorem kt_X12_goHour_0 (g : gx_T) : ∀ q ∈ k_X12_goHour_0, gx_E g gc_md RX12 cX12_goHour 3 (none) "goHour" q.1 q.2 := List.forall_mem_cons.mpr ⟨(gs_iconst dX12_goHour_0 rfl), List.forall_mem_cons.mpr ⟨
  (gs_istore_n dX12_goHour_1 rfl), List.forall_mem_cons.mpr ⟨
  (gs_iload_n dX12_goHour_2 rfl), List.forall_mem_cons.mpr ⟨
  (gs_aload_n dX12_goHour_3 rfl), List.forall_mem_cons.mpr ⟨
  (gs_gf (ref := "GriefCranesModel") dX12_goHour_4 (gx_mem 997 (by decide +kernel) (by decide +kernel)) (Or.inl rfl) gf_12_0), List.forall_mem_cons.mpr ⟨
  (gs_icmp_ge dX12_goHour_7 rfl), List.forall_mem_cons.mpr ⟨
  (gs_aload_n dX12_goHour_10 rfl), List.forall_mem_cons.mpr ⟨
  (gs_iload_n dX12_goHour_11 rfl), List.forall_mem_cons.mpr ⟨
  (gs_cv dX12_goHour_12 (fun q hq => by
      simp only [List.mem_cons, List.not_mem_nil, or_false] at hq
      subst hq
      exact Or.inl ⟨_, rfl, by decide, by decide +kernel, by decide +kernel, List.forall_mem_cons.mpr ⟨gx_mem 1372 (by decide +kernel) (by decide +kernel), List.forall_mem_cons.mpr ⟨gx_mem 1374 (by decide +kernel) (by decide +kernel), List.forall_mem_cons.mpr ⟨gx_mem 47 (by decide +kernel) (by decide +kernel), List.forall_mem_cons.mpr ⟨gx_mem 96 (by decide +kernel) (by decide +kernel), List.forall_mem_cons.mpr ⟨cw_1375, fun _ h => absurd h List.not_mem_nil⟩⟩⟩⟩⟩⟩)), List.forall_mem_cons.mpr ⟨
  (gs_istore_n dX12_goHour_15 rfl), List.forall_mem_cons.mpr ⟨
  (gs_iload_n dX12_goHour_16 rfl), List.forall_mem_cons.mpr ⟨
  (gs_if_lt dX12_goHour_17 rfl), List.forall_mem_cons.mpr ⟨
  (gs_aload_n dX12_goHour_20 rfl), List.forall_mem_cons.mpr ⟨
  (gs_iload_n dX12_goHour_21 rfl), List.forall_mem_cons.mpr ⟨
  (gs_iload_n dX12_goHour_22 rfl), List.forall_mem_cons.mpr ⟨
  (gs_cv dX12_goHour_23 (fun q hq => by
      simp only [List.mem_cons, List.not_mem_nil, or_false] at hq
      subst hq
      exact Or.inl ⟨_, rfl, by decide, by decide +kernel, by decide +kernel, List.forall_mem_cons.mpr ⟨gx_mem 1392 (by decide +kernel) (by decide +kernel), List.forall_mem_cons.mpr ⟨gx_mem 1394 (by decide +kernel) (by decide +kernel), List.forall_mem_cons.mpr ⟨gx_mem 51 (by decide +kernel) (by decide +kernel), List.forall_mem_cons.mpr ⟨gx_mem 96 (by decide +kernel) (by decide +kernel), List.forall_mem_cons.mpr ⟨cw_1395, fun _ h => absurd h List.not_mem_nil⟩⟩⟩⟩⟩⟩)), List.forall_mem_cons.mpr ⟨
  (gs_goto dX12_goHour_26 rfl), List.forall_mem_cons.mpr ⟨
  (gs_aload_n dX12_goHour_29 rfl), List.forall_mem_cons.mpr ⟨
  (gs_iload_n dX12_goHour_30 rfl), List.forall_mem_cons.mpr ⟨
  (gs_cv dX12_goHour_31 (fun q hq => by
      simp only [List.mem_cons, List.not_mem_nil, or_false] at hq
      subst hq
      exact Or.inl ⟨_, rfl, by decide, by decide +kernel, by decide +kernel, List.forall_mem_cons.mpr ⟨gx_mem 1408 (by decide +kernel) (by decide +kernel), List.forall_mem_cons.mpr ⟨gx_mem 1410 (by decide +kernel) (by decide +kernel), List.forall_mem_cons.mpr ⟨gx_mem 55 (by decide +kernel) (by decide +kernel), List.forall_mem_cons.mpr ⟨gx_mem 96 (by decide +kernel) (by decide +kernel), List.forall_mem_cons.mpr ⟨cw_1411, fun _ h => absurd h List.not_mem_nil⟩⟩⟩⟩⟩⟩)), List.forall_mem_cons.mpr ⟨
  (gs_iinc dX12_goHour_34), List.forall_mem_cons.mpr ⟨
  (gs_goto dX12_goHour_37 rfl), List.forall_mem_cons.mpr ⟨
  (gs_aload_n dX12_goHour_40 rfl), List.forall_mem_cons.mpr ⟨
  (gs_dup dX12_goHour_41), List.forall_mem_cons.mpr ⟨
  (gs_gf (ref := "GriefCranesModel") dX12_goHour_42 (gx_mem 999 (by decide +kernel) (by decide +kernel)) (Or.inl rfl) gf_12_2), List.forall_mem_cons.mpr ⟨
  (gs_iconst dX12_goHour_45 rfl), List.forall_mem_cons.mpr ⟨
  (gs_iadd dX12_goHour_46), List.forall_mem_cons.mpr ⟨
  (gs_pf (ref := "GriefCranesModel") dX12_goHour_47 (gx_mem 999 (by decide +kernel) (by decide +kernel)) (Or.inl rfl) gf_12_2 (by decide +kernel)), List.forall_mem_cons.mpr ⟨
  (gs_rv dX12_goHour_50), fun _ h => absurd h List.not_mem_nil⟩⟩⟩⟩⟩⟩⟩⟩⟩⟩⟩⟩⟩⟩⟩⟩⟩⟩⟩⟩⟩⟩⟩⟩⟩⟩⟩⟩⟩
theorem kt_X12_goHour (g : gx_T) : ∀ q ∈ k_X12_goHour, gx_E g gc_md RX12 cX12_goHour 3 (none) "goHour" q.1 q.2 := kt_X12_goHour_0 g
set_option maxRecDepth 20000 in
theorem dX12_goHours_0 : decode cX12_goHours 0 = .ok (.iconst 0, 1) := by decide +kernel
set_option maxRecDepth 20000 in
theorem dX12_goHours_1 : decode cX12_goHours 1 = .ok (.istore_n 2, 1) := by decide +kernel
set_option maxRecDepth 20000 in
theorem dX12_goHours_2 : decode cX12_goHours 2 = .ok (.iload_n 2, 1) := by decide +kernel
set_option maxRecDepth 20000 in
theorem dX12_goHours_3 : decode cX12_goHours 3 = .ok (.iload_n 1, 1) := by decide +kernel
set_option maxRecDepth 20000 in
theorem dX12_goHours_4 : decode cX12_goHours 4 = .ok (.if_icmp .ge 13, 3) := by decide +kernel
set_option maxRecDepth 20000 in
theorem dX12_goHours_7 : decode cX12_goHours 7 = .ok (.aload_n 0, 1) := by decide +kernel
set_option maxRecDepth 20000 in
theorem dX12_goHours_8 : decode cX12_goHours 8 = .ok (.invokevirtual 360, 3) := by decide +kernel
set_option maxRecDepth 20000 in
theorem dX12_goHours_11 : decode cX12_goHours 11 = .ok (.iinc 2 1, 3) := by decide +kernel
set_option maxRecDepth 20000 in
theorem dX12_goHours_14 : decode cX12_goHours 14 = .ok (.goto (-12), 3) := by decide +kernel
set_option maxRecDepth 20000 in
theorem dX12_goHours_17 : decode cX12_goHours 17 = .ok (.return_, 1) := by decide +kernel
set_option maxRecDepth 20000 in
theorem kt_X12_goHours_0 (g : gx_T) : ∀ q ∈ k_X12_goHours_0, gx_E g gc_md RX12 cX12_goHours 3 (none) "goHours" q.1 q.2 := List.forall_mem_cons.mpr ⟨(gs_iconst dX12_goHours_0 rfl), List.forall_mem_cons.mpr ⟨
  (gs_istore_n dX12_goHours_1 rfl), List.forall_mem_cons.mpr ⟨
  (gs_iload_n dX12_goHours_2 rfl), List.forall_mem_cons.mpr ⟨
  (gs_iload_n dX12_goHours_3 rfl), List.forall_mem_cons.mpr ⟨
  (gs_icmp_ge dX12_goHours_4 rfl), List.forall_mem_cons.mpr ⟨
  (gs_aload_n dX12_goHours_7 rfl), List.forall_mem_cons.mpr ⟨
  (gs_cv dX12_goHours_8 (fun q hq => by
      simp only [List.mem_cons, List.not_mem_nil, or_false] at hq
      subst hq
      exact Or.inl ⟨_, rfl, by decide, by decide +kernel, by decide +kernel, List.forall_mem_cons.mpr ⟨gx_mem 1388 (by decide +kernel) (by decide +kernel), List.forall_mem_cons.mpr ⟨gx_mem 1390 (by decide +kernel) (by decide +kernel), List.forall_mem_cons.mpr ⟨gx_mem 50 (by decide +kernel) (by decide +kernel), List.forall_mem_cons.mpr ⟨gx_mem 96 (by decide +kernel) (by decide +kernel), List.forall_mem_cons.mpr ⟨cw_1391, fun _ h => absurd h List.not_mem_nil⟩⟩⟩⟩⟩⟩)), List.forall_mem_cons.mpr ⟨
  (gs_iinc dX12_goHours_11), List.forall_mem_cons.mpr ⟨
  (gs_goto dX12_goHours_14 rfl), List.forall_mem_cons.mpr ⟨
  (gs_rv dX12_goHours_17), fun _ h => absurd h List.not_mem_nil⟩⟩⟩⟩⟩⟩⟩⟩⟩⟩
theorem kt_X12_goHours (g : gx_T) : ∀ q ∈ k_X12_goHours, gx_E g gc_md RX12 cX12_goHours 3 (none) "goHours" q.1 q.2 := kt_X12_goHours_0 g
set_option maxRecDepth 20000 in
theorem dX12_pass_0 : decode cX12_pass 0 = .ok (.aload_n 0, 1) := by decide +kernel
set_option maxRecDepth 20000 in
theorem dX12_pass_1 : decode cX12_pass 1 = .ok (.iload_n 1, 1) := by decide +kernel
set_option maxRecDepth 20000 in
theorem dX12_pass_2 : decode cX12_pass 2 = .ok (.invokevirtual 363, 3) := by decide +kernel
set_option maxRecDepth 20000 in
theorem dX12_pass_5 : decode cX12_pass 5 = .ok (.ifCond .ne 6, 3) := by decide +kernel
set_option maxRecDepth 20000 in
theorem dX12_pass_8 : decode cX12_pass 8 = .ok (.bipush (-2), 2) := by decide +kernel
set_option maxRecDepth 20000 in
theorem dX12_pass_10 : decode cX12_pass 10 = .ok (.ireturn, 1) := by decide +kernel
set_option maxRecDepth 20000 in
theorem dX12_pass_11 : decode cX12_pass 11 = .ok (.aload_n 0, 1) := by decide +kernel
set_option maxRecDepth 20000 in
theorem dX12_pass_12 : decode cX12_pass 12 = .ok (.getfield 16, 3) := by decide +kernel
set_option maxRecDepth 20000 in
theorem dX12_pass_15 : decode cX12_pass 15 = .ok (.iload_n 1, 1) := by decide +kernel
set_option maxRecDepth 20000 in
theorem dX12_pass_16 : decode cX12_pass 16 = .ok (.iadd, 1) := by decide +kernel
set_option maxRecDepth 20000 in
theorem dX12_pass_17 : decode cX12_pass 17 = .ok (.sipush 9999, 3) := by decide +kernel
set_option maxRecDepth 20000 in
theorem dX12_pass_20 : decode cX12_pass 20 = .ok (.if_icmp .le 6, 3) := by decide +kernel
set_option maxRecDepth 20000 in
theorem dX12_pass_23 : decode cX12_pass 23 = .ok (.bipush (-3), 2) := by decide +kernel
set_option maxRecDepth 20000 in
theorem dX12_pass_25 : decode cX12_pass 25 = .ok (.ireturn, 1) := by decide +kernel
set_option maxRecDepth 20000 in
theorem dX12_pass_26 : decode cX12_pass 26 = .ok (.aload_n 0, 1) := by decide +kernel
set_option maxRecDepth 20000 in
theorem dX12_pass_27 : decode cX12_pass 27 = .ok (.iload_n 1, 1) := by decide +kernel
set_option maxRecDepth 20000 in
theorem dX12_pass_28 : decode cX12_pass 28 = .ok (.invokevirtual 366, 3) := by decide +kernel
set_option maxRecDepth 20000 in
theorem dX12_pass_31 : decode cX12_pass 31 = .ok (.aload_n 0, 1) := by decide +kernel
set_option maxRecDepth 20000 in
theorem dX12_pass_32 : decode cX12_pass 32 = .ok (.getfield 16, 3) := by decide +kernel
set_option maxRecDepth 20000 in
theorem dX12_pass_35 : decode cX12_pass 35 = .ok (.ireturn, 1) := by decide +kernel
set_option maxRecDepth 20000 in
theorem kt_X12_pass_0 (g : gx_T) : ∀ q ∈ k_X12_pass_0, gx_E g gc_md RX12 cX12_pass 2 (some .int) "pass" q.1 q.2 := List.forall_mem_cons.mpr ⟨(gs_aload_n dX12_pass_0 rfl), List.forall_mem_cons.mpr ⟨
  (gs_iload_n dX12_pass_1 rfl), List.forall_mem_cons.mpr ⟨
  (gs_cv dX12_pass_2 (fun q hq => by
      simp only [List.mem_cons, List.not_mem_nil, or_false] at hq
      subst hq
      exact Or.inl ⟨_, rfl, by decide, by decide +kernel, by decide +kernel, List.forall_mem_cons.mpr ⟨gx_mem 1380 (by decide +kernel) (by decide +kernel), List.forall_mem_cons.mpr ⟨gx_mem 1382 (by decide +kernel) (by decide +kernel), List.forall_mem_cons.mpr ⟨gx_mem 48 (by decide +kernel) (by decide +kernel), List.forall_mem_cons.mpr ⟨gx_mem 96 (by decide +kernel) (by decide +kernel), List.forall_mem_cons.mpr ⟨cw_1383, fun _ h => absurd h List.not_mem_nil⟩⟩⟩⟩⟩⟩)), List.forall_mem_cons.mpr ⟨
  (gs_if_ne dX12_pass_5 rfl), List.forall_mem_cons.mpr ⟨
  (gs_bipush dX12_pass_8 rfl), List.forall_mem_cons.mpr ⟨
  (gs_ri dX12_pass_10), List.forall_mem_cons.mpr ⟨
  (gs_aload_n dX12_pass_11 rfl), List.forall_mem_cons.mpr ⟨
  (gs_gf (ref := "GriefCranesModel") dX12_pass_12 (gx_mem 999 (by decide +kernel) (by decide +kernel)) (Or.inl rfl) gf_12_2), List.forall_mem_cons.mpr ⟨
  (gs_iload_n dX12_pass_15 rfl), List.forall_mem_cons.mpr ⟨
  (gs_iadd dX12_pass_16), List.forall_mem_cons.mpr ⟨
  (gs_sipush dX12_pass_17 rfl), List.forall_mem_cons.mpr ⟨
  (gs_icmp_le dX12_pass_20 rfl), List.forall_mem_cons.mpr ⟨
  (gs_bipush dX12_pass_23 rfl), List.forall_mem_cons.mpr ⟨
  (gs_ri dX12_pass_25), List.forall_mem_cons.mpr ⟨
  (gs_aload_n dX12_pass_26 rfl), List.forall_mem_cons.mpr ⟨
  (gs_iload_n dX12_pass_27 rfl), List.forall_mem_cons.mpr ⟨
  (gs_cv dX12_pass_28 (fun q hq => by
      simp only [List.mem_cons, List.not_mem_nil, or_false] at hq
      subst hq
      exact Or.inl ⟨_, rfl, by decide, by decide +kernel, by decide +kernel, List.forall_mem_cons.mpr ⟨gx_mem 1384 (by decide +kernel) (by decide +kernel), List.forall_mem_cons.mpr ⟨gx_mem 1386 (by decide +kernel) (by decide +kernel), List.forall_mem_cons.mpr ⟨gx_mem 49 (by decide +kernel) (by decide +kernel), List.forall_mem_cons.mpr ⟨gx_mem 96 (by decide +kernel) (by decide +kernel), List.forall_mem_cons.mpr ⟨cw_1387, fun _ h => absurd h List.not_mem_nil⟩⟩⟩⟩⟩⟩)), List.forall_mem_cons.mpr ⟨
  (gs_aload_n dX12_pass_31 rfl), List.forall_mem_cons.mpr ⟨
  (gs_gf (ref := "GriefCranesModel") dX12_pass_32 (gx_mem 999 (by decide +kernel) (by decide +kernel)) (Or.inl rfl) gf_12_2), List.forall_mem_cons.mpr ⟨
  (gs_ri dX12_pass_35), fun _ h => absurd h List.not_mem_nil⟩⟩⟩⟩⟩⟩⟩⟩⟩⟩⟩⟩⟩⟩⟩⟩⟩⟩⟩⟩
theorem kt_X12_pass (g : gx_T) : ∀ q ∈ k_X12_pass, gx_E g gc_md RX12 cX12_pass 2 (some .int) "pass" q.1 q.2 := kt_X12_pass_0 g
set_option maxRecDepth 20000 in
theorem dX12_save_0 : decode cX12_save 0 = .ok (.aload_n 0, 1) := by decide +kernel
set_option maxRecDepth 20000 in
theorem dX12_save_1 : decode cX12_save 1 = .ok (.ldc_w 369, 3) := by decide +kernel
set_option maxRecDepth 20000 in
theorem dX12_save_4 : decode cX12_save 4 = .ok (.putfield 105, 3) := by decide +kernel
set_option maxRecDepth 20000 in
theorem dX12_save_7 : decode cX12_save 7 = .ok (.aload_n 0, 1) := by decide +kernel
set_option maxRecDepth 20000 in
theorem dX12_save_8 : decode cX12_save 8 = .ok (.aload_n 0, 1) := by decide +kernel
set_option maxRecDepth 20000 in
theorem dX12_save_9 : decode cX12_save 9 = .ok (.getfield 16, 3) := by decide +kernel
set_option maxRecDepth 20000 in
theorem dX12_save_12 : decode cX12_save 12 = .ok (.putfield 108, 3) := by decide +kernel
set_option maxRecDepth 20000 in
theorem dX12_save_15 : decode cX12_save 15 = .ok (.iconst 0, 1) := by decide +kernel
set_option maxRecDepth 20000 in
theorem dX12_save_16 : decode cX12_save 16 = .ok (.istore_n 1, 1) := by decide +kernel
set_option maxRecDepth 20000 in
theorem dX12_save_17 : decode cX12_save 17 = .ok (.iload_n 1, 1) := by decide +kernel
set_option maxRecDepth 20000 in
theorem dX12_save_18 : decode cX12_save 18 = .ok (.bipush 6, 2) := by decide +kernel
set_option maxRecDepth 20000 in
theorem dX12_save_20 : decode cX12_save 20 = .ok (.if_icmp .ge 21, 3) := by decide +kernel
set_option maxRecDepth 20000 in
theorem dX12_save_23 : decode cX12_save 23 = .ok (.aload_n 0, 1) := by decide +kernel
set_option maxRecDepth 20000 in
theorem dX12_save_24 : decode cX12_save 24 = .ok (.getfield 111, 3) := by decide +kernel
set_option maxRecDepth 20000 in
theorem dX12_save_27 : decode cX12_save 27 = .ok (.iload_n 1, 1) := by decide +kernel
set_option maxRecDepth 20000 in
theorem dX12_save_28 : decode cX12_save 28 = .ok (.aload_n 0, 1) := by decide +kernel
set_option maxRecDepth 20000 in
theorem dX12_save_29 : decode cX12_save 29 = .ok (.getfield 29, 3) := by decide +kernel
set_option maxRecDepth 20000 in
theorem dX12_save_32 : decode cX12_save 32 = .ok (.iload_n 1, 1) := by decide +kernel
set_option maxRecDepth 20000 in
theorem dX12_save_33 : decode cX12_save 33 = .ok (.iaload, 1) := by decide +kernel
set_option maxRecDepth 20000 in
theorem dX12_save_34 : decode cX12_save 34 = .ok (.iastore, 1) := by decide +kernel
set_option maxRecDepth 20000 in
theorem dX12_save_35 : decode cX12_save 35 = .ok (.iinc 1 1, 3) := by decide +kernel
set_option maxRecDepth 20000 in
theorem dX12_save_38 : decode cX12_save 38 = .ok (.goto (-21), 3) := by decide +kernel
set_option maxRecDepth 20000 in
theorem dX12_save_41 : decode cX12_save 41 = .ok (.iconst 0, 1) := by decide +kernel
set_option maxRecDepth 20000 in
theorem dX12_save_42 : decode cX12_save 42 = .ok (.istore_n 1, 1) := by decide +kernel
set_option maxRecDepth 20000 in
theorem dX12_save_43 : decode cX12_save 43 = .ok (.iload_n 1, 1) := by decide +kernel
set_option maxRecDepth 20000 in
theorem dX12_save_44 : decode cX12_save 44 = .ok (.bipush 8, 2) := by decide +kernel
set_option maxRecDepth 20000 in
theorem dX12_save_46 : decode cX12_save 46 = .ok (.if_icmp .ge 57, 3) := by decide +kernel
set_option maxRecDepth 20000 in
theorem dX12_save_49 : decode cX12_save 49 = .ok (.aload_n 0, 1) := by decide +kernel
set_option maxRecDepth 20000 in
theorem dX12_save_50 : decode cX12_save 50 = .ok (.getfield 114, 3) := by decide +kernel
set_option maxRecDepth 20000 in
theorem dX12_save_53 : decode cX12_save 53 = .ok (.iload_n 1, 1) := by decide +kernel
set_option maxRecDepth 20000 in
theorem dX12_save_54 : decode cX12_save 54 = .ok (.aload_n 0, 1) := by decide +kernel
set_option maxRecDepth 20000 in
theorem dX12_save_55 : decode cX12_save 55 = .ok (.getfield 38, 3) := by decide +kernel
set_option maxRecDepth 20000 in
theorem dX12_save_58 : decode cX12_save 58 = .ok (.iload_n 1, 1) := by decide +kernel
set_option maxRecDepth 20000 in
theorem dX12_save_59 : decode cX12_save 59 = .ok (.iaload, 1) := by decide +kernel
set_option maxRecDepth 20000 in
theorem dX12_save_60 : decode cX12_save 60 = .ok (.iastore, 1) := by decide +kernel
set_option maxRecDepth 20000 in
theorem dX12_save_61 : decode cX12_save 61 = .ok (.aload_n 0, 1) := by decide +kernel
set_option maxRecDepth 20000 in
theorem dX12_save_62 : decode cX12_save 62 = .ok (.getfield 117, 3) := by decide +kernel
set_option maxRecDepth 20000 in
theorem dX12_save_65 : decode cX12_save 65 = .ok (.iload_n 1, 1) := by decide +kernel
set_option maxRecDepth 20000 in
theorem dX12_save_66 : decode cX12_save 66 = .ok (.aload_n 0, 1) := by decide +kernel
set_option maxRecDepth 20000 in
theorem dX12_save_67 : decode cX12_save 67 = .ok (.getfield 41, 3) := by decide +kernel
set_option maxRecDepth 20000 in
theorem dX12_save_70 : decode cX12_save 70 = .ok (.iload_n 1, 1) := by decide +kernel
set_option maxRecDepth 20000 in
theorem dX12_save_71 : decode cX12_save 71 = .ok (.iaload, 1) := by decide +kernel
set_option maxRecDepth 20000 in
theorem dX12_save_72 : decode cX12_save 72 = .ok (.iastore, 1) := by decide +kernel
set_option maxRecDepth 20000 in
theorem dX12_save_73 : decode cX12_save 73 = .ok (.aload_n 0, 1) := by decide +kernel
set_option maxRecDepth 20000 in
theorem dX12_save_74 : decode cX12_save 74 = .ok (.getfield 120, 3) := by decide +kernel
set_option maxRecDepth 20000 in
theorem dX12_save_77 : decode cX12_save 77 = .ok (.iload_n 1, 1) := by decide +kernel
set_option maxRecDepth 20000 in
theorem dX12_save_78 : decode cX12_save 78 = .ok (.aload_n 0, 1) := by decide +kernel
set_option maxRecDepth 20000 in
theorem dX12_save_79 : decode cX12_save 79 = .ok (.getfield 44, 3) := by decide +kernel
set_option maxRecDepth 20000 in
theorem dX12_save_82 : decode cX12_save 82 = .ok (.iload_n 1, 1) := by decide +kernel
set_option maxRecDepth 20000 in
theorem dX12_save_83 : decode cX12_save 83 = .ok (.iaload, 1) := by decide +kernel
set_option maxRecDepth 20000 in
theorem dX12_save_84 : decode cX12_save 84 = .ok (.iastore, 1) := by decide +kernel
set_option maxRecDepth 20000 in
theorem dX12_save_85 : decode cX12_save 85 = .ok (.aload_n 0, 1) := by decide +kernel
set_option maxRecDepth 20000 in
theorem dX12_save_86 : decode cX12_save 86 = .ok (.getfield 123, 3) := by decide +kernel
set_option maxRecDepth 20000 in
theorem dX12_save_89 : decode cX12_save 89 = .ok (.iload_n 1, 1) := by decide +kernel
set_option maxRecDepth 20000 in
theorem dX12_save_90 : decode cX12_save 90 = .ok (.aload_n 0, 1) := by decide +kernel
set_option maxRecDepth 20000 in
theorem dX12_save_91 : decode cX12_save 91 = .ok (.getfield 47, 3) := by decide +kernel
set_option maxRecDepth 20000 in
theorem dX12_save_94 : decode cX12_save 94 = .ok (.iload_n 1, 1) := by decide +kernel
set_option maxRecDepth 20000 in
theorem dX12_save_95 : decode cX12_save 95 = .ok (.iaload, 1) := by decide +kernel
set_option maxRecDepth 20000 in
theorem dX12_save_96 : decode cX12_save 96 = .ok (.iastore, 1) := by decide +kernel
set_option maxRecDepth 20000 in
theorem dX12_save_97 : decode cX12_save 97 = .ok (.iinc 1 1, 3) := by decide +kernel
set_option maxRecDepth 20000 in
theorem dX12_save_100 : decode cX12_save 100 = .ok (.goto (-57), 3) := by decide +kernel
set_option maxRecDepth 20000 in
theorem dX12_save_103 : decode cX12_save 103 = .ok (.return_, 1) := by decide +kernel
set_option maxRecDepth 20000 in
theorem kt_X12_save_0 (g : gx_T) : ∀ q ∈ k_X12_save_0, gx_E g gc_md RX12 cX12_save 2 (none) "save" q.1 q.2 := List.forall_mem_cons.mpr ⟨(gs_aload_n dX12_save_0 rfl), List.forall_mem_cons.mpr ⟨
  (gs_ldcw dX12_save_1 (gx_mem 1428 (by decide +kernel) (by decide +kernel))), List.forall_mem_cons.mpr ⟨
  (gs_pf (ref := "GriefCranesModel") dX12_save_4 (gx_mem 1028 (by decide +kernel) (by decide +kernel)) (Or.inl rfl) gf_12_31 (by decide +kernel)), List.forall_mem_cons.mpr ⟨
  (gs_aload_n dX12_save_7 rfl), List.forall_mem_cons.mpr ⟨
  (gs_aload_n dX12_save_8 rfl), List.forall_mem_cons.mpr ⟨
  (gs_gf (ref := "GriefCranesModel") dX12_save_9 (gx_mem 999 (by decide +kernel) (by decide +kernel)) (Or.inl rfl) gf_12_2), List.forall_mem_cons.mpr ⟨
  (gs_pf (ref := "GriefCranesModel") dX12_save_12 (gx_mem 1029 (by decide +kernel) (by decide +kernel)) (Or.inl rfl) gf_12_32 (by decide +kernel)), List.forall_mem_cons.mpr ⟨
  (gs_iconst dX12_save_15 rfl), List.forall_mem_cons.mpr ⟨
  (gs_istore_n dX12_save_16 rfl), List.forall_mem_cons.mpr ⟨
  (gs_iload_n dX12_save_17 rfl), List.forall_mem_cons.mpr ⟨
  (gs_bipush dX12_save_18 rfl), List.forall_mem_cons.mpr ⟨
  (gs_icmp_ge dX12_save_20 rfl), List.forall_mem_cons.mpr ⟨
  (gs_aload_n dX12_save_23 rfl), List.forall_mem_cons.mpr ⟨
  (gs_gf (ref := "GriefCranesModel") dX12_save_24 (gx_mem 1030 (by decide +kernel) (by decide +kernel)) (Or.inl rfl) gf_12_33), List.forall_mem_cons.mpr ⟨
  (gs_iload_n dX12_save_27 rfl), List.forall_mem_cons.mpr ⟨
  (gs_aload_n dX12_save_28 rfl), List.forall_mem_cons.mpr ⟨
  (gs_gf (ref := "GriefCranesModel") dX12_save_29 (gx_mem 1003 (by decide +kernel) (by decide +kernel)) (Or.inl rfl) gf_12_6), List.forall_mem_cons.mpr ⟨
  (gs_iload_n dX12_save_32 rfl), List.forall_mem_cons.mpr ⟨
  (gs_iaload dX12_save_33), List.forall_mem_cons.mpr ⟨
  (gs_iastore dX12_save_34), List.forall_mem_cons.mpr ⟨
  (gs_iinc dX12_save_35), List.forall_mem_cons.mpr ⟨
  (gs_goto dX12_save_38 rfl), List.forall_mem_cons.mpr ⟨
  (gs_iconst dX12_save_41 rfl), List.forall_mem_cons.mpr ⟨
  (gs_istore_n dX12_save_42 rfl), List.forall_mem_cons.mpr ⟨
  (gs_iload_n dX12_save_43 rfl), List.forall_mem_cons.mpr ⟨
  (gs_bipush dX12_save_44 rfl), List.forall_mem_cons.mpr ⟨
  (gs_icmp_ge dX12_save_46 rfl), List.forall_mem_cons.mpr ⟨
  (gs_aload_n dX12_save_49 rfl), List.forall_mem_cons.mpr ⟨
  (gs_gf (ref := "GriefCranesModel") dX12_save_50 (gx_mem 1031 (by decide +kernel) (by decide +kernel)) (Or.inl rfl) gf_12_34), List.forall_mem_cons.mpr ⟨
  (gs_iload_n dX12_save_53 rfl), List.forall_mem_cons.mpr ⟨
  (gs_aload_n dX12_save_54 rfl), List.forall_mem_cons.mpr ⟨
  (gs_gf (ref := "GriefCranesModel") dX12_save_55 (gx_mem 1006 (by decide +kernel) (by decide +kernel)) (Or.inl rfl) gf_12_9), fun _ h => absurd h List.not_mem_nil⟩⟩⟩⟩⟩⟩⟩⟩⟩⟩⟩⟩⟩⟩⟩⟩⟩⟩⟩⟩⟩⟩⟩⟩⟩⟩⟩⟩⟩⟩⟩⟩
set_option maxRecDepth 20000 in
theorem kt_X12_save_1 (g : gx_T) : ∀ q ∈ k_X12_save_1, gx_E g gc_md RX12 cX12_save 2 (none) "save" q.1 q.2 := List.forall_mem_cons.mpr ⟨(gs_iload_n dX12_save_58 rfl), List.forall_mem_cons.mpr ⟨
  (gs_iaload dX12_save_59), List.forall_mem_cons.mpr ⟨
  (gs_iastore dX12_save_60), List.forall_mem_cons.mpr ⟨
  (gs_aload_n dX12_save_61 rfl), List.forall_mem_cons.mpr ⟨
  (gs_gf (ref := "GriefCranesModel") dX12_save_62 (gx_mem 1032 (by decide +kernel) (by decide +kernel)) (Or.inl rfl) gf_12_35), List.forall_mem_cons.mpr ⟨
  (gs_iload_n dX12_save_65 rfl), List.forall_mem_cons.mpr ⟨
  (gs_aload_n dX12_save_66 rfl), List.forall_mem_cons.mpr ⟨
  (gs_gf (ref := "GriefCranesModel") dX12_save_67 (gx_mem 1007 (by decide +kernel) (by decide +kernel)) (Or.inl rfl) gf_12_10), List.forall_mem_cons.mpr ⟨
  (gs_iload_n dX12_save_70 rfl), List.forall_mem_cons.mpr ⟨
  (gs_iaload dX12_save_71), List.forall_mem_cons.mpr ⟨
  (gs_iastore dX12_save_72), List.forall_mem_cons.mpr ⟨
  (gs_aload_n dX12_save_73 rfl), List.forall_mem_cons.mpr ⟨
  (gs_gf (ref := "GriefCranesModel") dX12_save_74 (gx_mem 1033 (by decide +kernel) (by decide +kernel)) (Or.inl rfl) gf_12_36), List.forall_mem_cons.mpr ⟨
  (gs_iload_n dX12_save_77 rfl), List.forall_mem_cons.mpr ⟨
  (gs_aload_n dX12_save_78 rfl), List.forall_mem_cons.mpr ⟨
  (gs_gf (ref := "GriefCranesModel") dX12_save_79 (gx_mem 1008 (by decide +kernel) (by decide +kernel)) (Or.inl rfl) gf_12_11), List.forall_mem_cons.mpr ⟨
  (gs_iload_n dX12_save_82 rfl), List.forall_mem_cons.mpr ⟨
  (gs_iaload dX12_save_83), List.forall_mem_cons.mpr ⟨
  (gs_iastore dX12_save_84), List.forall_mem_cons.mpr ⟨
  (gs_aload_n dX12_save_85 rfl), List.forall_mem_cons.mpr ⟨
  (gs_gf (ref := "GriefCranesModel") dX12_save_86 (gx_mem 1034 (by decide +kernel) (by decide +kernel)) (Or.inl rfl) gf_12_37), List.forall_mem_cons.mpr ⟨
  (gs_iload_n dX12_save_89 rfl), List.forall_mem_cons.mpr ⟨
  (gs_aload_n dX12_save_90 rfl), List.forall_mem_cons.mpr ⟨
  (gs_gf (ref := "GriefCranesModel") dX12_save_91 (gx_mem 1009 (by decide +kernel) (by decide +kernel)) (Or.inl rfl) gf_12_12), List.forall_mem_cons.mpr ⟨
  (gs_iload_n dX12_save_94 rfl), List.forall_mem_cons.mpr ⟨
  (gs_iaload dX12_save_95), List.forall_mem_cons.mpr ⟨
  (gs_iastore dX12_save_96), List.forall_mem_cons.mpr ⟨
  (gs_iinc dX12_save_97), List.forall_mem_cons.mpr ⟨
  (gs_goto dX12_save_100 rfl), List.forall_mem_cons.mpr ⟨
  (gs_rv dX12_save_103), fun _ h => absurd h List.not_mem_nil⟩⟩⟩⟩⟩⟩⟩⟩⟩⟩⟩⟩⟩⟩⟩⟩⟩⟩⟩⟩⟩⟩⟩⟩⟩⟩⟩⟩⟩⟩
theorem kt_X12_save (g : gx_T) : ∀ q ∈ k_X12_save, gx_E g gc_md RX12 cX12_save 2 (none) "save" q.1 q.2 := List.forall_mem_append.mpr ⟨kt_X12_save_0 g, kt_X12_save_1 g⟩
set_option maxRecDepth 20000 in
theorem dX12_putBack_0 : decode cX12_putBack 0 = .ok (.aload_n 0, 1) := by decide +kernel
set_option maxRecDepth 20000 in
theorem dX12_putBack_1 : decode cX12_putBack 1 = .ok (.sipush 9999, 3) := by decide +kernel
set_option maxRecDepth 20000 in
theorem dX12_putBack_4 : decode cX12_putBack 4 = .ok (.putfield 105, 3) := by decide +kernel
set_option maxRecDepth 20000 in
theorem dX12_putBack_7 : decode cX12_putBack 7 = .ok (.aload_n 0, 1) := by decide +kernel
set_option maxRecDepth 20000 in
theorem dX12_putBack_8 : decode cX12_putBack 8 = .ok (.aload_n 0, 1) := by decide +kernel
set_option maxRecDepth 20000 in
theorem dX12_putBack_9 : decode cX12_putBack 9 = .ok (.getfield 108, 3) := by decide +kernel
set_option maxRecDepth 20000 in
theorem dX12_putBack_12 : decode cX12_putBack 12 = .ok (.putfield 16, 3) := by decide +kernel
set_option maxRecDepth 20000 in
theorem dX12_putBack_15 : decode cX12_putBack 15 = .ok (.iconst 0, 1) := by decide +kernel
set_option maxRecDepth 20000 in
theorem dX12_putBack_16 : decode cX12_putBack 16 = .ok (.istore_n 1, 1) := by decide +kernel
set_option maxRecDepth 20000 in
theorem dX12_putBack_17 : decode cX12_putBack 17 = .ok (.iload_n 1, 1) := by decide +kernel
set_option maxRecDepth 20000 in
theorem dX12_putBack_18 : decode cX12_putBack 18 = .ok (.bipush 6, 2) := by decide +kernel
set_option maxRecDepth 20000 in
theorem dX12_putBack_20 : decode cX12_putBack 20 = .ok (.if_icmp .ge 21, 3) := by decide +kernel
set_option maxRecDepth 20000 in
theorem dX12_putBack_23 : decode cX12_putBack 23 = .ok (.aload_n 0, 1) := by decide +kernel
set_option maxRecDepth 20000 in
theorem dX12_putBack_24 : decode cX12_putBack 24 = .ok (.getfield 29, 3) := by decide +kernel
set_option maxRecDepth 20000 in
theorem dX12_putBack_27 : decode cX12_putBack 27 = .ok (.iload_n 1, 1) := by decide +kernel
set_option maxRecDepth 20000 in
theorem dX12_putBack_28 : decode cX12_putBack 28 = .ok (.aload_n 0, 1) := by decide +kernel
set_option maxRecDepth 20000 in
theorem dX12_putBack_29 : decode cX12_putBack 29 = .ok (.getfield 111, 3) := by decide +kernel
set_option maxRecDepth 20000 in
theorem dX12_putBack_32 : decode cX12_putBack 32 = .ok (.iload_n 1, 1) := by decide +kernel
set_option maxRecDepth 20000 in
theorem dX12_putBack_33 : decode cX12_putBack 33 = .ok (.iaload, 1) := by decide +kernel
set_option maxRecDepth 20000 in
theorem dX12_putBack_34 : decode cX12_putBack 34 = .ok (.iastore, 1) := by decide +kernel
set_option maxRecDepth 20000 in
theorem dX12_putBack_35 : decode cX12_putBack 35 = .ok (.iinc 1 1, 3) := by decide +kernel
set_option maxRecDepth 20000 in
theorem dX12_putBack_38 : decode cX12_putBack 38 = .ok (.goto (-21), 3) := by decide +kernel
set_option maxRecDepth 20000 in
theorem dX12_putBack_41 : decode cX12_putBack 41 = .ok (.iconst 0, 1) := by decide +kernel
set_option maxRecDepth 20000 in
theorem dX12_putBack_42 : decode cX12_putBack 42 = .ok (.istore_n 1, 1) := by decide +kernel
set_option maxRecDepth 20000 in
theorem dX12_putBack_43 : decode cX12_putBack 43 = .ok (.iload_n 1, 1) := by decide +kernel
set_option maxRecDepth 20000 in
theorem dX12_putBack_44 : decode cX12_putBack 44 = .ok (.bipush 8, 2) := by decide +kernel
set_option maxRecDepth 20000 in
theorem dX12_putBack_46 : decode cX12_putBack 46 = .ok (.if_icmp .ge 57, 3) := by decide +kernel
set_option maxRecDepth 20000 in
theorem dX12_putBack_49 : decode cX12_putBack 49 = .ok (.aload_n 0, 1) := by decide +kernel
set_option maxRecDepth 20000 in
theorem dX12_putBack_50 : decode cX12_putBack 50 = .ok (.getfield 38, 3) := by decide +kernel
set_option maxRecDepth 20000 in
theorem dX12_putBack_53 : decode cX12_putBack 53 = .ok (.iload_n 1, 1) := by decide +kernel
set_option maxRecDepth 20000 in
theorem dX12_putBack_54 : decode cX12_putBack 54 = .ok (.aload_n 0, 1) := by decide +kernel
set_option maxRecDepth 20000 in
theorem dX12_putBack_55 : decode cX12_putBack 55 = .ok (.getfield 114, 3) := by decide +kernel
set_option maxRecDepth 20000 in
theorem dX12_putBack_58 : decode cX12_putBack 58 = .ok (.iload_n 1, 1) := by decide +kernel
set_option maxRecDepth 20000 in
theorem dX12_putBack_59 : decode cX12_putBack 59 = .ok (.iaload, 1) := by decide +kernel
set_option maxRecDepth 20000 in
theorem dX12_putBack_60 : decode cX12_putBack 60 = .ok (.iastore, 1) := by decide +kernel
set_option maxRecDepth 20000 in
theorem dX12_putBack_61 : decode cX12_putBack 61 = .ok (.aload_n 0, 1) := by decide +kernel
set_option maxRecDepth 20000 in
theorem dX12_putBack_62 : decode cX12_putBack 62 = .ok (.getfield 41, 3) := by decide +kernel
set_option maxRecDepth 20000 in
theorem dX12_putBack_65 : decode cX12_putBack 65 = .ok (.iload_n 1, 1) := by decide +kernel
set_option maxRecDepth 20000 in
theorem dX12_putBack_66 : decode cX12_putBack 66 = .ok (.aload_n 0, 1) := by decide +kernel
set_option maxRecDepth 20000 in
theorem dX12_putBack_67 : decode cX12_putBack 67 = .ok (.getfield 117, 3) := by decide +kernel
set_option maxRecDepth 20000 in
theorem dX12_putBack_70 : decode cX12_putBack 70 = .ok (.iload_n 1, 1) := by decide +kernel
set_option maxRecDepth 20000 in
theorem dX12_putBack_71 : decode cX12_putBack 71 = .ok (.iaload, 1) := by decide +kernel
set_option maxRecDepth 20000 in
theorem dX12_putBack_72 : decode cX12_putBack 72 = .ok (.iastore, 1) := by decide +kernel
set_option maxRecDepth 20000 in
theorem dX12_putBack_73 : decode cX12_putBack 73 = .ok (.aload_n 0, 1) := by decide +kernel
set_option maxRecDepth 20000 in
theorem dX12_putBack_74 : decode cX12_putBack 74 = .ok (.getfield 44, 3) := by decide +kernel
set_option maxRecDepth 20000 in
theorem dX12_putBack_77 : decode cX12_putBack 77 = .ok (.iload_n 1, 1) := by decide +kernel
set_option maxRecDepth 20000 in
theorem dX12_putBack_78 : decode cX12_putBack 78 = .ok (.aload_n 0, 1) := by decide +kernel
set_option maxRecDepth 20000 in
theorem dX12_putBack_79 : decode cX12_putBack 79 = .ok (.getfield 120, 3) := by decide +kernel
set_option maxRecDepth 20000 in
theorem dX12_putBack_82 : decode cX12_putBack 82 = .ok (.iload_n 1, 1) := by decide +kernel
set_option maxRecDepth 20000 in
theorem dX12_putBack_83 : decode cX12_putBack 83 = .ok (.iaload, 1) := by decide +kernel
set_option maxRecDepth 20000 in
theorem dX12_putBack_84 : decode cX12_putBack 84 = .ok (.iastore, 1) := by decide +kernel
set_option maxRecDepth 20000 in
theorem dX12_putBack_85 : decode cX12_putBack 85 = .ok (.aload_n 0, 1) := by decide +kernel
set_option maxRecDepth 20000 in
theorem dX12_putBack_86 : decode cX12_putBack 86 = .ok (.getfield 47, 3) := by decide +kernel
set_option maxRecDepth 20000 in
theorem dX12_putBack_89 : decode cX12_putBack 89 = .ok (.iload_n 1, 1) := by decide +kernel
set_option maxRecDepth 20000 in
theorem dX12_putBack_90 : decode cX12_putBack 90 = .ok (.aload_n 0, 1) := by decide +kernel
set_option maxRecDepth 20000 in
theorem dX12_putBack_91 : decode cX12_putBack 91 = .ok (.getfield 123, 3) := by decide +kernel
set_option maxRecDepth 20000 in
theorem dX12_putBack_94 : decode cX12_putBack 94 = .ok (.iload_n 1, 1) := by decide +kernel
set_option maxRecDepth 20000 in
theorem dX12_putBack_95 : decode cX12_putBack 95 = .ok (.iaload, 1) := by decide +kernel
set_option maxRecDepth 20000 in
theorem dX12_putBack_96 : decode cX12_putBack 96 = .ok (.iastore, 1) := by decide +kernel
set_option maxRecDepth 20000 in
theorem dX12_putBack_97 : decode cX12_putBack 97 = .ok (.iinc 1 1, 3) := by decide +kernel
set_option maxRecDepth 20000 in
theorem dX12_putBack_100 : decode cX12_putBack 100 = .ok (.goto (-57), 3) := by decide +kernel
set_option maxRecDepth 20000 in
theorem dX12_putBack_103 : decode cX12_putBack 103 = .ok (.return_, 1) := by decide +kernel
set_option maxRecDepth 20000 in
theorem kt_X12_putBack_0 (g : gx_T) : ∀ q ∈ k_X12_putBack_0, gx_E g gc_md RX12 cX12_putBack 2 (none) "putBack" q.1 q.2 := List.forall_mem_cons.mpr ⟨(gs_aload_n dX12_putBack_0 rfl), List.forall_mem_cons.mpr ⟨
  (gs_sipush dX12_putBack_1 rfl), List.forall_mem_cons.mpr ⟨
  (gs_pf (ref := "GriefCranesModel") dX12_putBack_4 (gx_mem 1028 (by decide +kernel) (by decide +kernel)) (Or.inl rfl) gf_12_31 (by decide +kernel)), List.forall_mem_cons.mpr ⟨
  (gs_aload_n dX12_putBack_7 rfl), List.forall_mem_cons.mpr ⟨
  (gs_aload_n dX12_putBack_8 rfl), List.forall_mem_cons.mpr ⟨
  (gs_gf (ref := "GriefCranesModel") dX12_putBack_9 (gx_mem 1029 (by decide +kernel) (by decide +kernel)) (Or.inl rfl) gf_12_32), List.forall_mem_cons.mpr ⟨
  (gs_pf (ref := "GriefCranesModel") dX12_putBack_12 (gx_mem 999 (by decide +kernel) (by decide +kernel)) (Or.inl rfl) gf_12_2 (by decide +kernel)), List.forall_mem_cons.mpr ⟨
  (gs_iconst dX12_putBack_15 rfl), List.forall_mem_cons.mpr ⟨
  (gs_istore_n dX12_putBack_16 rfl), List.forall_mem_cons.mpr ⟨
  (gs_iload_n dX12_putBack_17 rfl), List.forall_mem_cons.mpr ⟨
  (gs_bipush dX12_putBack_18 rfl), List.forall_mem_cons.mpr ⟨
  (gs_icmp_ge dX12_putBack_20 rfl), List.forall_mem_cons.mpr ⟨
  (gs_aload_n dX12_putBack_23 rfl), List.forall_mem_cons.mpr ⟨
  (gs_gf (ref := "GriefCranesModel") dX12_putBack_24 (gx_mem 1003 (by decide +kernel) (by decide +kernel)) (Or.inl rfl) gf_12_6), List.forall_mem_cons.mpr ⟨
  (gs_iload_n dX12_putBack_27 rfl), List.forall_mem_cons.mpr ⟨
  (gs_aload_n dX12_putBack_28 rfl), List.forall_mem_cons.mpr ⟨
  (gs_gf (ref := "GriefCranesModel") dX12_putBack_29 (gx_mem 1030 (by decide +kernel) (by decide +kernel)) (Or.inl rfl) gf_12_33), List.forall_mem_cons.mpr ⟨
  (gs_iload_n dX12_putBack_32 rfl), List.forall_mem_cons.mpr ⟨
  (gs_iaload dX12_putBack_33), List.forall_mem_cons.mpr ⟨
  (gs_iastore dX12_putBack_34), List.forall_mem_cons.mpr ⟨
  (gs_iinc dX12_putBack_35), List.forall_mem_cons.mpr ⟨
  (gs_goto dX12_putBack_38 rfl), List.forall_mem_cons.mpr ⟨
  (gs_iconst dX12_putBack_41 rfl), List.forall_mem_cons.mpr ⟨
  (gs_istore_n dX12_putBack_42 rfl), List.forall_mem_cons.mpr ⟨
  (gs_iload_n dX12_putBack_43 rfl), List.forall_mem_cons.mpr ⟨
  (gs_bipush dX12_putBack_44 rfl), List.forall_mem_cons.mpr ⟨
  (gs_icmp_ge dX12_putBack_46 rfl), List.forall_mem_cons.mpr ⟨
  (gs_aload_n dX12_putBack_49 rfl), List.forall_mem_cons.mpr ⟨
  (gs_gf (ref := "GriefCranesModel") dX12_putBack_50 (gx_mem 1006 (by decide +kernel) (by decide +kernel)) (Or.inl rfl) gf_12_9), List.forall_mem_cons.mpr ⟨
  (gs_iload_n dX12_putBack_53 rfl), List.forall_mem_cons.mpr ⟨
  (gs_aload_n dX12_putBack_54 rfl), List.forall_mem_cons.mpr ⟨
  (gs_gf (ref := "GriefCranesModel") dX12_putBack_55 (gx_mem 1031 (by decide +kernel) (by decide +kernel)) (Or.inl rfl) gf_12_34), fun _ h => absurd h List.not_mem_nil⟩⟩⟩⟩⟩⟩⟩⟩⟩⟩⟩⟩⟩⟩⟩⟩⟩⟩⟩⟩⟩⟩⟩⟩⟩⟩⟩⟩⟩⟩⟩⟩
set_option maxRecDepth 20000 in
theorem kt_X12_putBack_1 (g : gx_T) : ∀ q ∈ k_X12_putBack_1, gx_E g gc_md RX12 cX12_putBack 2 (none) "putBack" q.1 q.2 := List.forall_mem_cons.mpr ⟨(gs_iload_n dX12_putBack_58 rfl), List.forall_mem_cons.mpr ⟨
  (gs_iaload dX12_putBack_59), List.forall_mem_cons.mpr ⟨
  (gs_iastore dX12_putBack_60), List.forall_mem_cons.mpr ⟨
  (gs_aload_n dX12_putBack_61 rfl), List.forall_mem_cons.mpr ⟨
  (gs_gf (ref := "GriefCranesModel") dX12_putBack_62 (gx_mem 1007 (by decide +kernel) (by decide +kernel)) (Or.inl rfl) gf_12_10), List.forall_mem_cons.mpr ⟨
  (gs_iload_n dX12_putBack_65 rfl), List.forall_mem_cons.mpr ⟨
  (gs_aload_n dX12_putBack_66 rfl), List.forall_mem_cons.mpr ⟨
  (gs_gf (ref := "GriefCranesModel") dX12_putBack_67 (gx_mem 1032 (by decide +kernel) (by decide +kernel)) (Or.inl rfl) gf_12_35), List.forall_mem_cons.mpr ⟨
  (gs_iload_n dX12_putBack_70 rfl), List.forall_mem_cons.mpr ⟨
  (gs_iaload dX12_putBack_71), List.forall_mem_cons.mpr ⟨
  (gs_iastore dX12_putBack_72), List.forall_mem_cons.mpr ⟨
  (gs_aload_n dX12_putBack_73 rfl), List.forall_mem_cons.mpr ⟨
  (gs_gf (ref := "GriefCranesModel") dX12_putBack_74 (gx_mem 1008 (by decide +kernel) (by decide +kernel)) (Or.inl rfl) gf_12_11), List.forall_mem_cons.mpr ⟨
  (gs_iload_n dX12_putBack_77 rfl), List.forall_mem_cons.mpr ⟨
  (gs_aload_n dX12_putBack_78 rfl), List.forall_mem_cons.mpr ⟨
  (gs_gf (ref := "GriefCranesModel") dX12_putBack_79 (gx_mem 1033 (by decide +kernel) (by decide +kernel)) (Or.inl rfl) gf_12_36), List.forall_mem_cons.mpr ⟨
  (gs_iload_n dX12_putBack_82 rfl), List.forall_mem_cons.mpr ⟨
  (gs_iaload dX12_putBack_83), List.forall_mem_cons.mpr ⟨
  (gs_iastore dX12_putBack_84), List.forall_mem_cons.mpr ⟨
  (gs_aload_n dX12_putBack_85 rfl), List.forall_mem_cons.mpr ⟨
  (gs_gf (ref := "GriefCranesModel") dX12_putBack_86 (gx_mem 1009 (by decide +kernel) (by decide +kernel)) (Or.inl rfl) gf_12_12), List.forall_mem_cons.mpr ⟨
  (gs_iload_n dX12_putBack_89 rfl), List.forall_mem_cons.mpr ⟨
  (gs_aload_n dX12_putBack_90 rfl), List.forall_mem_cons.mpr ⟨
  (gs_gf (ref := "GriefCranesModel") dX12_putBack_91 (gx_mem 1034 (by decide +kernel) (by decide +kernel)) (Or.inl rfl) gf_12_37), List.forall_mem_cons.mpr ⟨
  (gs_iload_n dX12_putBack_94 rfl), List.forall_mem_cons.mpr ⟨
  (gs_iaload dX12_putBack_95), List.forall_mem_cons.mpr ⟨
  (gs_iastore dX12_putBack_96), List.forall_mem_cons.mpr ⟨
  (gs_iinc dX12_putBack_97), List.forall_mem_cons.mpr ⟨
  (gs_goto dX12_putBack_100 rfl), List.forall_mem_cons.mpr ⟨
  (gs_rv dX12_putBack_103), fun _ h => absurd h List.not_mem_nil⟩⟩⟩⟩⟩⟩⟩⟩⟩⟩⟩⟩⟩⟩⟩⟩⟩⟩⟩⟩⟩⟩⟩⟩⟩⟩⟩⟩⟩⟩
theorem kt_X12_putBack (g : gx_T) : ∀ q ∈ k_X12_putBack, gx_E g gc_md RX12 cX12_putBack 2 (none) "putBack" q.1 q.2 := List.forall_mem_append.mpr ⟨kt_X12_putBack_0 g, kt_X12_putBack_1 g⟩
set_option maxRecDepth 20000 in
theorem dX12_setOf_0 : decode cX12_setOf 0 = .ok (.iconst 0, 1) := by decide +kernel
set_option maxRecDepth 20000 in
theorem dX12_setOf_1 : decode cX12_setOf 1 = .ok (.istore_n 2, 1) := by decide +kernel
set_option maxRecDepth 20000 in
theorem dX12_setOf_2 : decode cX12_setOf 2 = .ok (.iconst 0, 1) := by decide +kernel
set_option maxRecDepth 20000 in
theorem dX12_setOf_3 : decode cX12_setOf 3 = .ok (.istore_n 3, 1) := by decide +kernel
set_option maxRecDepth 20000 in
theorem dX12_setOf_4 : decode cX12_setOf 4 = .ok (.iload_n 3, 1) := by decide +kernel
set_option maxRecDepth 20000 in
theorem dX12_setOf_5 : decode cX12_setOf 5 = .ok (.aload_n 0, 1) := by decide +kernel
set_option maxRecDepth 20000 in
theorem dX12_setOf_6 : decode cX12_setOf 6 = .ok (.getfield 13, 3) := by decide +kernel
set_option maxRecDepth 20000 in
theorem dX12_setOf_9 : decode cX12_setOf 9 = .ok (.if_icmp .ge 29, 3) := by decide +kernel
set_option maxRecDepth 20000 in
theorem dX12_setOf_12 : decode cX12_setOf 12 = .ok (.iload_n 2, 1) := by decide +kernel
set_option maxRecDepth 20000 in
theorem dX12_setOf_13 : decode cX12_setOf 13 = .ok (.aload_n 0, 1) := by decide +kernel
set_option maxRecDepth 20000 in
theorem dX12_setOf_14 : decode cX12_setOf 14 = .ok (.getfield 41, 3) := by decide +kernel
set_option maxRecDepth 20000 in
theorem dX12_setOf_17 : decode cX12_setOf 17 = .ok (.iload_n 3, 1) := by decide +kernel
set_option maxRecDepth 20000 in
theorem dX12_setOf_18 : decode cX12_setOf 18 = .ok (.iaload, 1) := by decide +kernel
set_option maxRecDepth 20000 in
theorem dX12_setOf_19 : decode cX12_setOf 19 = .ok (.iload_n 1, 1) := by decide +kernel
set_option maxRecDepth 20000 in
theorem dX12_setOf_20 : decode cX12_setOf 20 = .ok (.if_icmp .ne 9, 3) := by decide +kernel
set_option maxRecDepth 20000 in
theorem dX12_setOf_23 : decode cX12_setOf 23 = .ok (.iconst 1, 1) := by decide +kernel
set_option maxRecDepth 20000 in
theorem dX12_setOf_24 : decode cX12_setOf 24 = .ok (.iload_n 3, 1) := by decide +kernel
set_option maxRecDepth 20000 in
theorem dX12_setOf_25 : decode cX12_setOf 25 = .ok (.ishl, 1) := by decide +kernel
set_option maxRecDepth 20000 in
theorem dX12_setOf_26 : decode cX12_setOf 26 = .ok (.goto 4, 3) := by decide +kernel
set_option maxRecDepth 20000 in
theorem dX12_setOf_29 : decode cX12_setOf 29 = .ok (.iconst 0, 1) := by decide +kernel
set_option maxRecDepth 20000 in
theorem dX12_setOf_30 : decode cX12_setOf 30 = .ok (.ior, 1) := by decide +kernel
set_option maxRecDepth 20000 in
theorem dX12_setOf_31 : decode cX12_setOf 31 = .ok (.istore_n 2, 1) := by decide +kernel
set_option maxRecDepth 20000 in
theorem dX12_setOf_32 : decode cX12_setOf 32 = .ok (.iinc 3 1, 3) := by decide +kernel
set_option maxRecDepth 20000 in
theorem dX12_setOf_35 : decode cX12_setOf 35 = .ok (.goto (-31), 3) := by decide +kernel
set_option maxRecDepth 20000 in
theorem dX12_setOf_38 : decode cX12_setOf 38 = .ok (.iload_n 2, 1) := by decide +kernel
set_option maxRecDepth 20000 in
theorem dX12_setOf_39 : decode cX12_setOf 39 = .ok (.ireturn, 1) := by decide +kernel
set_option maxRecDepth 20000 in
theorem kt_X12_setOf_0 (g : gx_T) : ∀ q ∈ k_X12_setOf_0, gx_E g gc_md RX12 cX12_setOf 4 (some .int) "setOf" q.1 q.2 := List.forall_mem_cons.mpr ⟨(gs_iconst dX12_setOf_0 rfl), List.forall_mem_cons.mpr ⟨
  (gs_istore_n dX12_setOf_1 rfl), List.forall_mem_cons.mpr ⟨
  (gs_iconst dX12_setOf_2 rfl), List.forall_mem_cons.mpr ⟨
  (gs_istore_n dX12_setOf_3 rfl), List.forall_mem_cons.mpr ⟨
  (gs_iload_n dX12_setOf_4 rfl), List.forall_mem_cons.mpr ⟨
  (gs_aload_n dX12_setOf_5 rfl), List.forall_mem_cons.mpr ⟨
  (gs_gf (ref := "GriefCranesModel") dX12_setOf_6 (gx_mem 998 (by decide +kernel) (by decide +kernel)) (Or.inl rfl) gf_12_1), List.forall_mem_cons.mpr ⟨
  (gs_icmp_ge dX12_setOf_9 rfl), List.forall_mem_cons.mpr ⟨
  (gs_iload_n dX12_setOf_12 rfl), List.forall_mem_cons.mpr ⟨
  (gs_aload_n dX12_setOf_13 rfl), List.forall_mem_cons.mpr ⟨
  (gs_gf (ref := "GriefCranesModel") dX12_setOf_14 (gx_mem 1007 (by decide +kernel) (by decide +kernel)) (Or.inl rfl) gf_12_10), List.forall_mem_cons.mpr ⟨
  (gs_iload_n dX12_setOf_17 rfl), List.forall_mem_cons.mpr ⟨
  (gs_iaload dX12_setOf_18), List.forall_mem_cons.mpr ⟨
  (gs_iload_n dX12_setOf_19 rfl), List.forall_mem_cons.mpr ⟨
  (gs_icmp_ne dX12_setOf_20 rfl), List.forall_mem_cons.mpr ⟨
  (gs_iconst dX12_setOf_23 rfl), List.forall_mem_cons.mpr ⟨
  (gs_iload_n dX12_setOf_24 rfl), List.forall_mem_cons.mpr ⟨
  (gs_ishl dX12_setOf_25), List.forall_mem_cons.mpr ⟨
  (gs_goto dX12_setOf_26 rfl), List.forall_mem_cons.mpr ⟨
  (gs_iconst dX12_setOf_29 rfl), List.forall_mem_cons.mpr ⟨
  (gs_ior dX12_setOf_30), List.forall_mem_cons.mpr ⟨
  (gs_istore_n dX12_setOf_31 rfl), List.forall_mem_cons.mpr ⟨
  (gs_iinc dX12_setOf_32), List.forall_mem_cons.mpr ⟨
  (gs_goto dX12_setOf_35 rfl), List.forall_mem_cons.mpr ⟨
  (gs_iload_n dX12_setOf_38 rfl), List.forall_mem_cons.mpr ⟨
  (gs_ri dX12_setOf_39), fun _ h => absurd h List.not_mem_nil⟩⟩⟩⟩⟩⟩⟩⟩⟩⟩⟩⟩⟩⟩⟩⟩⟩⟩⟩⟩⟩⟩⟩⟩⟩⟩
theorem kt_X12_setOf (g : gx_T) : ∀ q ∈ k_X12_setOf, gx_E g gc_md RX12 cX12_setOf 4 (some .int) "setOf" q.1 q.2 := kt_X12_setOf_0 g
set_option maxRecDepth 20000 in
theorem dX12_downBy_0 : decode cX12_downBy 0 = .ok (.aload_n 0, 1) := by decide +kernel
set_option maxRecDepth 20000 in
theorem dX12_downBy_1 : decode cX12_downBy 1 = .ok (.invokevirtual 370, 3) := by decide +kernel
set_option maxRecDepth 20000 in
theorem dX12_downBy_4 : decode cX12_downBy 4 = .ok (.iload_n 2, 1) := by decide +kernel
set_option maxRecDepth 20000 in
theorem dX12_downBy_5 : decode cX12_downBy 5 = .ok (.ifCond .lt 10, 3) := by decide +kernel
set_option maxRecDepth 20000 in
theorem dX12_downBy_8 : decode cX12_downBy 8 = .ok (.aload_n 0, 1) := by decide +kernel
set_option maxRecDepth 20000 in
theorem dX12_downBy_9 : decode cX12_downBy 9 = .ok (.getfield 38, 3) := by decide +kernel
set_option maxRecDepth 20000 in
theorem dX12_downBy_12 : decode cX12_downBy 12 = .ok (.iload_n 1, 1) := by decide +kernel
set_option maxRecDepth 20000 in
theorem dX12_downBy_13 : decode cX12_downBy 13 = .ok (.iload_n 2, 1) := by decide +kernel
set_option maxRecDepth 20000 in
theorem dX12_downBy_14 : decode cX12_downBy 14 = .ok (.iastore, 1) := by decide +kernel
set_option maxRecDepth 20000 in
theorem dX12_downBy_15 : decode cX12_downBy 15 = .ok (.iconst 0, 1) := by decide +kernel
set_option maxRecDepth 20000 in
theorem dX12_downBy_16 : decode cX12_downBy 16 = .ok (.istore_n 3, 1) := by decide +kernel
set_option maxRecDepth 20000 in
theorem dX12_downBy_17 : decode cX12_downBy 17 = .ok (.iload_n 3, 1) := by decide +kernel
set_option maxRecDepth 20000 in
theorem dX12_downBy_18 : decode cX12_downBy 18 = .ok (.bipush 61, 2) := by decide +kernel
set_option maxRecDepth 20000 in
theorem dX12_downBy_20 : decode cX12_downBy 20 = .ok (.if_icmp .ge 23, 3) := by decide +kernel
set_option maxRecDepth 20000 in
theorem dX12_downBy_23 : decode cX12_downBy 23 = .ok (.aload_n 0, 1) := by decide +kernel
set_option maxRecDepth 20000 in
theorem dX12_downBy_24 : decode cX12_downBy 24 = .ok (.getfield 41, 3) := by decide +kernel
set_option maxRecDepth 20000 in
theorem dX12_downBy_27 : decode cX12_downBy 27 = .ok (.iload_n 1, 1) := by decide +kernel
set_option maxRecDepth 20000 in
theorem dX12_downBy_28 : decode cX12_downBy 28 = .ok (.iaload, 1) := by decide +kernel
set_option maxRecDepth 20000 in
theorem dX12_downBy_29 : decode cX12_downBy 29 = .ok (.iconst 2, 1) := by decide +kernel
set_option maxRecDepth 20000 in
theorem dX12_downBy_30 : decode cX12_downBy 30 = .ok (.if_icmp .eq 13, 3) := by decide +kernel
set_option maxRecDepth 20000 in
theorem dX12_downBy_33 : decode cX12_downBy 33 = .ok (.aload_n 0, 1) := by decide +kernel
set_option maxRecDepth 20000 in
theorem dX12_downBy_34 : decode cX12_downBy 34 = .ok (.invokevirtual 360, 3) := by decide +kernel
set_option maxRecDepth 20000 in
theorem dX12_downBy_37 : decode cX12_downBy 37 = .ok (.iinc 3 1, 3) := by decide +kernel
set_option maxRecDepth 20000 in
theorem dX12_downBy_40 : decode cX12_downBy 40 = .ok (.goto (-23), 3) := by decide +kernel
set_option maxRecDepth 20000 in
theorem dX12_downBy_43 : decode cX12_downBy 43 = .ok (.aload_n 0, 1) := by decide +kernel
set_option maxRecDepth 20000 in
theorem dX12_downBy_44 : decode cX12_downBy 44 = .ok (.invokevirtual 373, 3) := by decide +kernel
set_option maxRecDepth 20000 in
theorem dX12_downBy_47 : decode cX12_downBy 47 = .ok (.iload_n 3, 1) := by decide +kernel
set_option maxRecDepth 20000 in
theorem dX12_downBy_48 : decode cX12_downBy 48 = .ok (.ireturn, 1) := by decide +kernel
set_option maxRecDepth 20000 in
theorem kt_X12_downBy_0 (g : gx_T) : ∀ q ∈ k_X12_downBy_0, gx_E g gc_md RX12 cX12_downBy 4 (some .int) "downBy" q.1 q.2 := List.forall_mem_cons.mpr ⟨(gs_aload_n dX12_downBy_0 rfl), List.forall_mem_cons.mpr ⟨
  (gs_cv dX12_downBy_1 (fun q hq => by
      simp only [List.mem_cons, List.not_mem_nil, or_false] at hq
      subst hq
      exact Or.inl ⟨_, rfl, by decide, by decide +kernel, by decide +kernel, List.forall_mem_cons.mpr ⟨gx_mem 1424 (by decide +kernel) (by decide +kernel), List.forall_mem_cons.mpr ⟨gx_mem 1426 (by decide +kernel) (by decide +kernel), List.forall_mem_cons.mpr ⟨gx_mem 57 (by decide +kernel) (by decide +kernel), List.forall_mem_cons.mpr ⟨gx_mem 96 (by decide +kernel) (by decide +kernel), List.forall_mem_cons.mpr ⟨cw_1427, fun _ h => absurd h List.not_mem_nil⟩⟩⟩⟩⟩⟩)), List.forall_mem_cons.mpr ⟨
  (gs_iload_n dX12_downBy_4 rfl), List.forall_mem_cons.mpr ⟨
  (gs_if_lt dX12_downBy_5 rfl), List.forall_mem_cons.mpr ⟨
  (gs_aload_n dX12_downBy_8 rfl), List.forall_mem_cons.mpr ⟨
  (gs_gf (ref := "GriefCranesModel") dX12_downBy_9 (gx_mem 1006 (by decide +kernel) (by decide +kernel)) (Or.inl rfl) gf_12_9), List.forall_mem_cons.mpr ⟨
  (gs_iload_n dX12_downBy_12 rfl), List.forall_mem_cons.mpr ⟨
  (gs_iload_n dX12_downBy_13 rfl), List.forall_mem_cons.mpr ⟨
  (gs_iastore dX12_downBy_14), List.forall_mem_cons.mpr ⟨
  (gs_iconst dX12_downBy_15 rfl), List.forall_mem_cons.mpr ⟨
  (gs_istore_n dX12_downBy_16 rfl), List.forall_mem_cons.mpr ⟨
  (gs_iload_n dX12_downBy_17 rfl), List.forall_mem_cons.mpr ⟨
  (gs_bipush dX12_downBy_18 rfl), List.forall_mem_cons.mpr ⟨
  (gs_icmp_ge dX12_downBy_20 rfl), List.forall_mem_cons.mpr ⟨
  (gs_aload_n dX12_downBy_23 rfl), List.forall_mem_cons.mpr ⟨
  (gs_gf (ref := "GriefCranesModel") dX12_downBy_24 (gx_mem 1007 (by decide +kernel) (by decide +kernel)) (Or.inl rfl) gf_12_10), List.forall_mem_cons.mpr ⟨
  (gs_iload_n dX12_downBy_27 rfl), List.forall_mem_cons.mpr ⟨
  (gs_iaload dX12_downBy_28), List.forall_mem_cons.mpr ⟨
  (gs_iconst dX12_downBy_29 rfl), List.forall_mem_cons.mpr ⟨
  (gs_icmp_eq dX12_downBy_30 rfl), List.forall_mem_cons.mpr ⟨
  (gs_aload_n dX12_downBy_33 rfl), List.forall_mem_cons.mpr ⟨
  (gs_cv dX12_downBy_34 (fun q hq => by
      simp only [List.mem_cons, List.not_mem_nil, or_false] at hq
      subst hq
      exact Or.inl ⟨_, rfl, by decide, by decide +kernel, by decide +kernel, List.forall_mem_cons.mpr ⟨gx_mem 1388 (by decide +kernel) (by decide +kernel), List.forall_mem_cons.mpr ⟨gx_mem 1390 (by decide +kernel) (by decide +kernel), List.forall_mem_cons.mpr ⟨gx_mem 50 (by decide +kernel) (by decide +kernel), List.forall_mem_cons.mpr ⟨gx_mem 96 (by decide +kernel) (by decide +kernel), List.forall_mem_cons.mpr ⟨cw_1391, fun _ h => absurd h List.not_mem_nil⟩⟩⟩⟩⟩⟩)), List.forall_mem_cons.mpr ⟨
  (gs_iinc dX12_downBy_37), List.forall_mem_cons.mpr ⟨
  (gs_goto dX12_downBy_40 rfl), List.forall_mem_cons.mpr ⟨
  (gs_aload_n dX12_downBy_43 rfl), List.forall_mem_cons.mpr ⟨
  (gs_cv dX12_downBy_44 (fun q hq => by
      simp only [List.mem_cons, List.not_mem_nil, or_false] at hq
      subst hq
      exact Or.inl ⟨_, rfl, by decide, by decide +kernel, by decide +kernel, List.forall_mem_cons.mpr ⟨gx_mem 1437 (by decide +kernel) (by decide +kernel), List.forall_mem_cons.mpr ⟨gx_mem 1439 (by decide +kernel) (by decide +kernel), List.forall_mem_cons.mpr ⟨gx_mem 60 (by decide +kernel) (by decide +kernel), List.forall_mem_cons.mpr ⟨gx_mem 96 (by decide +kernel) (by decide +kernel), List.forall_mem_cons.mpr ⟨cw_1440, fun _ h => absurd h List.not_mem_nil⟩⟩⟩⟩⟩⟩)), List.forall_mem_cons.mpr ⟨
  (gs_iload_n dX12_downBy_47 rfl), List.forall_mem_cons.mpr ⟨
  (gs_ri dX12_downBy_48), fun _ h => absurd h List.not_mem_nil⟩⟩⟩⟩⟩⟩⟩⟩⟩⟩⟩⟩⟩⟩⟩⟩⟩⟩⟩⟩⟩⟩⟩⟩⟩⟩⟩⟩
theorem kt_X12_downBy (g : gx_T) : ∀ q ∈ k_X12_downBy, gx_E g gc_md RX12 cX12_downBy 4 (some .int) "downBy" q.1 q.2 := kt_X12_downBy_0 g
set_option maxRecDepth 20000 in
theorem dX12_down_0 : decode cX12_down 0 = .ok (.aload_n 0, 1) := by decide +kernel
set_option maxRecDepth 20000 in
theorem dX12_down_1 : decode cX12_down 1 = .ok (.iload_n 1, 1) := by decide +kernel
set_option maxRecDepth 20000 in
theorem dX12_down_2 : decode cX12_down 2 = .ok (.bipush (-9), 2) := by decide +kernel
set_option maxRecDepth 20000 in
theorem dX12_down_4 : decode cX12_down 4 = .ok (.invokevirtual 376, 3) := by decide +kernel
set_option maxRecDepth 20000 in
theorem dX12_down_7 : decode cX12_down 7 = .ok (.istore_n 2, 1) := by decide +kernel
set_option maxRecDepth 20000 in
theorem dX12_down_8 : decode cX12_down 8 = .ok (.iload_n 2, 1) := by decide +kernel
set_option maxRecDepth 20000 in
theorem dX12_down_9 : decode cX12_down 9 = .ok (.bipush 61, 2) := by decide +kernel
set_option maxRecDepth 20000 in
theorem dX12_down_11 : decode cX12_down 11 = .ok (.if_icmp .ge 7, 3) := by decide +kernel
set_option maxRecDepth 20000 in
theorem dX12_down_14 : decode cX12_down 14 = .ok (.iload_n 2, 1) := by decide +kernel
set_option maxRecDepth 20000 in
theorem dX12_down_15 : decode cX12_down 15 = .ok (.goto 5, 3) := by decide +kernel
set_option maxRecDepth 20000 in
theorem dX12_down_18 : decode cX12_down 18 = .ok (.bipush (-5), 2) := by decide +kernel
set_option maxRecDepth 20000 in
theorem dX12_down_20 : decode cX12_down 20 = .ok (.ireturn, 1) := by decide +kernel
set_option maxRecDepth 20000 in
theorem kt_X12_down_0 (g : gx_T) : ∀ q ∈ k_X12_down_0, gx_E g gc_md RX12 cX12_down 3 (some .int) "down" q.1 q.2 := List.forall_mem_cons.mpr ⟨(gs_aload_n dX12_down_0 rfl), List.forall_mem_cons.mpr ⟨
  (gs_iload_n dX12_down_1 rfl), List.forall_mem_cons.mpr ⟨
  (gs_bipush dX12_down_2 rfl), List.forall_mem_cons.mpr ⟨
  (gs_cv dX12_down_4 (fun q hq => by
      simp only [List.mem_cons, List.not_mem_nil, or_false] at hq
      subst hq
      exact Or.inl ⟨_, rfl, by decide, by decide +kernel, by decide +kernel, List.forall_mem_cons.mpr ⟨gx_mem 1474 (by decide +kernel) (by decide +kernel), List.forall_mem_cons.mpr ⟨gx_mem 1476 (by decide +kernel) (by decide +kernel), List.forall_mem_cons.mpr ⟨gx_mem 66 (by decide +kernel) (by decide +kernel), List.forall_mem_cons.mpr ⟨gx_mem 96 (by decide +kernel) (by decide +kernel), List.forall_mem_cons.mpr ⟨cw_1477, fun _ h => absurd h List.not_mem_nil⟩⟩⟩⟩⟩⟩)), List.forall_mem_cons.mpr ⟨
  (gs_istore_n dX12_down_7 rfl), List.forall_mem_cons.mpr ⟨
  (gs_iload_n dX12_down_8 rfl), List.forall_mem_cons.mpr ⟨
  (gs_bipush dX12_down_9 rfl), List.forall_mem_cons.mpr ⟨
  (gs_icmp_ge dX12_down_11 rfl), List.forall_mem_cons.mpr ⟨
  (gs_iload_n dX12_down_14 rfl), List.forall_mem_cons.mpr ⟨
  (gs_goto dX12_down_15 rfl), List.forall_mem_cons.mpr ⟨
  (gs_bipush dX12_down_18 rfl), List.forall_mem_cons.mpr ⟨
  (gs_ri dX12_down_20), fun _ h => absurd h List.not_mem_nil⟩⟩⟩⟩⟩⟩⟩⟩⟩⟩⟩⟩
theorem kt_X12_down (g : gx_T) : ∀ q ∈ k_X12_down, gx_E g gc_md RX12 cX12_down 3 (some .int) "down" q.1 q.2 := kt_X12_down_0 g
set_option maxRecDepth 20000 in
theorem dX12_bestCrane_0 : decode cX12_bestCrane 0 = .ok (.aload_n 0, 1) := by decide +kernel
set_option maxRecDepth 20000 in
theorem dX12_bestCrane_1 : decode cX12_bestCrane 1 = .ok (.getfield 41, 3) := by decide +kernel
set_option maxRecDepth 20000 in
theorem dX12_bestCrane_4 : decode cX12_bestCrane 4 = .ok (.iload_n 1, 1) := by decide +kernel
set_option maxRecDepth 20000 in
theorem dX12_bestCrane_5 : decode cX12_bestCrane 5 = .ok (.iaload, 1) := by decide +kernel
set_option maxRecDepth 20000 in
theorem dX12_bestCrane_6 : decode cX12_bestCrane 6 = .ok (.ifCond .eq 6, 3) := by decide +kernel
set_option maxRecDepth 20000 in
theorem dX12_bestCrane_9 : decode cX12_bestCrane 9 = .ok (.bipush (-5), 2) := by decide +kernel
set_option maxRecDepth 20000 in
theorem dX12_bestCrane_11 : decode cX12_bestCrane 11 = .ok (.ireturn, 1) := by decide +kernel
set_option maxRecDepth 20000 in
theorem dX12_bestCrane_12 : decode cX12_bestCrane 12 = .ok (.bipush (-5), 2) := by decide +kernel
set_option maxRecDepth 20000 in
theorem dX12_bestCrane_14 : decode cX12_bestCrane 14 = .ok (.istore_n 2, 1) := by decide +kernel
set_option maxRecDepth 20000 in
theorem dX12_bestCrane_15 : decode cX12_bestCrane 15 = .ok (.bipush 61, 2) := by decide +kernel
set_option maxRecDepth 20000 in
theorem dX12_bestCrane_17 : decode cX12_bestCrane 17 = .ok (.istore_n 3, 1) := by decide +kernel
set_option maxRecDepth 20000 in
theorem dX12_bestCrane_18 : decode cX12_bestCrane 18 = .ok (.iconst 0, 1) := by decide +kernel
set_option maxRecDepth 20000 in
theorem dX12_bestCrane_19 : decode cX12_bestCrane 19 = .ok (.istore 4, 2) := by decide +kernel
set_option maxRecDepth 20000 in
theorem dX12_bestCrane_21 : decode cX12_bestCrane 21 = .ok (.iload 4, 2) := by decide +kernel
set_option maxRecDepth 20000 in
theorem dX12_bestCrane_23 : decode cX12_bestCrane 23 = .ok (.aload_n 0, 1) := by decide +kernel
set_option maxRecDepth 20000 in
theorem dX12_bestCrane_24 : decode cX12_bestCrane 24 = .ok (.getfield 7, 3) := by decide +kernel
set_option maxRecDepth 20000 in
theorem dX12_bestCrane_27 : decode cX12_bestCrane 27 = .ok (.if_icmp .ge 33, 3) := by decide +kernel
set_option maxRecDepth 20000 in
theorem dX12_bestCrane_30 : decode cX12_bestCrane 30 = .ok (.aload_n 0, 1) := by decide +kernel
set_option maxRecDepth 20000 in
theorem dX12_bestCrane_31 : decode cX12_bestCrane 31 = .ok (.iload_n 1, 1) := by decide +kernel
set_option maxRecDepth 20000 in
theorem dX12_bestCrane_32 : decode cX12_bestCrane 32 = .ok (.iload 4, 2) := by decide +kernel
set_option maxRecDepth 20000 in
theorem dX12_bestCrane_34 : decode cX12_bestCrane 34 = .ok (.invokevirtual 376, 3) := by decide +kernel
set_option maxRecDepth 20000 in
theorem dX12_bestCrane_37 : decode cX12_bestCrane 37 = .ok (.istore 5, 2) := by decide +kernel
set_option maxRecDepth 20000 in
theorem dX12_bestCrane_39 : decode cX12_bestCrane 39 = .ok (.iload 5, 2) := by decide +kernel
set_option maxRecDepth 20000 in
theorem dX12_bestCrane_41 : decode cX12_bestCrane 41 = .ok (.iload_n 3, 1) := by decide +kernel
set_option maxRecDepth 20000 in
theorem dX12_bestCrane_42 : decode cX12_bestCrane 42 = .ok (.if_icmp .lt 6, 3) := by decide +kernel
set_option maxRecDepth 20000 in
theorem dX12_bestCrane_45 : decode cX12_bestCrane 45 = .ok (.goto 9, 3) := by decide +kernel
set_option maxRecDepth 20000 in
theorem dX12_bestCrane_48 : decode cX12_bestCrane 48 = .ok (.iload 4, 2) := by decide +kernel
set_option maxRecDepth 20000 in
theorem dX12_bestCrane_50 : decode cX12_bestCrane 50 = .ok (.istore_n 2, 1) := by decide +kernel
set_option maxRecDepth 20000 in
theorem dX12_bestCrane_51 : decode cX12_bestCrane 51 = .ok (.iload 5, 2) := by decide +kernel
set_option maxRecDepth 20000 in
theorem dX12_bestCrane_53 : decode cX12_bestCrane 53 = .ok (.istore_n 3, 1) := by decide +kernel
set_option maxRecDepth 20000 in
theorem dX12_bestCrane_54 : decode cX12_bestCrane 54 = .ok (.iinc 4 1, 3) := by decide +kernel
set_option maxRecDepth 20000 in
theorem dX12_bestCrane_57 : decode cX12_bestCrane 57 = .ok (.goto (-36), 3) := by decide +kernel
set_option maxRecDepth 20000 in
theorem dX12_bestCrane_60 : decode cX12_bestCrane 60 = .ok (.iload_n 2, 1) := by decide +kernel
set_option maxRecDepth 20000 in
theorem dX12_bestCrane_61 : decode cX12_bestCrane 61 = .ok (.ireturn, 1) := by decide +kernel
set_option maxRecDepth 20000 in
theorem kt_X12_bestCrane_0 (g : gx_T) : ∀ q ∈ k_X12_bestCrane_0, gx_E g gc_md RX12 cX12_bestCrane 6 (some .int) "bestCrane" q.1 q.2 := List.forall_mem_cons.mpr ⟨(gs_aload_n dX12_bestCrane_0 rfl), List.forall_mem_cons.mpr ⟨
  (gs_gf (ref := "GriefCranesModel") dX12_bestCrane_1 (gx_mem 1007 (by decide +kernel) (by decide +kernel)) (Or.inl rfl) gf_12_10), List.forall_mem_cons.mpr ⟨
  (gs_iload_n dX12_bestCrane_4 rfl), List.forall_mem_cons.mpr ⟨
  (gs_iaload dX12_bestCrane_5), List.forall_mem_cons.mpr ⟨
  (gs_if_eq dX12_bestCrane_6 rfl), List.forall_mem_cons.mpr ⟨
  (gs_bipush dX12_bestCrane_9 rfl), List.forall_mem_cons.mpr ⟨
  (gs_ri dX12_bestCrane_11), List.forall_mem_cons.mpr ⟨
  (gs_bipush dX12_bestCrane_12 rfl), List.forall_mem_cons.mpr ⟨
  (gs_istore_n dX12_bestCrane_14 rfl), List.forall_mem_cons.mpr ⟨
  (gs_bipush dX12_bestCrane_15 rfl), List.forall_mem_cons.mpr ⟨
  (gs_istore_n dX12_bestCrane_17 rfl), List.forall_mem_cons.mpr ⟨
  (gs_iconst dX12_bestCrane_18 rfl), List.forall_mem_cons.mpr ⟨
  (gs_istore dX12_bestCrane_19), List.forall_mem_cons.mpr ⟨
  (gs_iload dX12_bestCrane_21), List.forall_mem_cons.mpr ⟨
  (gs_aload_n dX12_bestCrane_23 rfl), List.forall_mem_cons.mpr ⟨
  (gs_gf (ref := "GriefCranesModel") dX12_bestCrane_24 (gx_mem 997 (by decide +kernel) (by decide +kernel)) (Or.inl rfl) gf_12_0), List.forall_mem_cons.mpr ⟨
  (gs_icmp_ge dX12_bestCrane_27 rfl), List.forall_mem_cons.mpr ⟨
  (gs_aload_n dX12_bestCrane_30 rfl), List.forall_mem_cons.mpr ⟨
  (gs_iload_n dX12_bestCrane_31 rfl), List.forall_mem_cons.mpr ⟨
  (gs_iload dX12_bestCrane_32), List.forall_mem_cons.mpr ⟨
  (gs_cv dX12_bestCrane_34 (fun q hq => by
      simp only [List.mem_cons, List.not_mem_nil, or_false] at hq
      subst hq
      exact Or.inl ⟨_, rfl, by decide, by decide +kernel, by decide +kernel, List.forall_mem_cons.mpr ⟨gx_mem 1474 (by decide +kernel) (by decide +kernel), List.forall_mem_cons.mpr ⟨gx_mem 1476 (by decide +kernel) (by decide +kernel), List.forall_mem_cons.mpr ⟨gx_mem 66 (by decide +kernel) (by decide +kernel), List.forall_mem_cons.mpr ⟨gx_mem 96 (by decide +kernel) (by decide +kernel), List.forall_mem_cons.mpr ⟨cw_1477, fun _ h => absurd h List.not_mem_nil⟩⟩⟩⟩⟩⟩)), List.forall_mem_cons.mpr ⟨
  (gs_istore dX12_bestCrane_37), List.forall_mem_cons.mpr ⟨
  (gs_iload dX12_bestCrane_39), List.forall_mem_cons.mpr ⟨
  (gs_iload_n dX12_bestCrane_41 rfl), List.forall_mem_cons.mpr ⟨
  (gs_icmp_lt dX12_bestCrane_42 rfl), List.forall_mem_cons.mpr ⟨
  (gs_goto dX12_bestCrane_45 rfl), List.forall_mem_cons.mpr ⟨
  (gs_iload dX12_bestCrane_48), List.forall_mem_cons.mpr ⟨
  (gs_istore_n dX12_bestCrane_50 rfl), List.forall_mem_cons.mpr ⟨
  (gs_iload dX12_bestCrane_51), List.forall_mem_cons.mpr ⟨
  (gs_istore_n dX12_bestCrane_53 rfl), List.forall_mem_cons.mpr ⟨
  (gs_iinc dX12_bestCrane_54), List.forall_mem_cons.mpr ⟨
  (gs_goto dX12_bestCrane_57 rfl), fun _ h => absurd h List.not_mem_nil⟩⟩⟩⟩⟩⟩⟩⟩⟩⟩⟩⟩⟩⟩⟩⟩⟩⟩⟩⟩⟩⟩⟩⟩⟩⟩⟩⟩⟩⟩⟩⟩
set_option maxRecDepth 20000 in
theorem kt_X12_bestCrane_1 (g : gx_T) : ∀ q ∈ k_X12_bestCrane_1, gx_E g gc_md RX12 cX12_bestCrane 6 (some .int) "bestCrane" q.1 q.2 := List.forall_mem_cons.mpr ⟨(gs_iload_n dX12_bestCrane_60 rfl), List.forall_mem_cons.mpr ⟨
  (gs_ri dX12_bestCrane_61), fun _ h => absurd h List.not_mem_nil⟩⟩
theorem kt_X12_bestCrane (g : gx_T) : ∀ q ∈ k_X12_bestCrane, gx_E g gc_md RX12 cX12_bestCrane 6 (some .int) "bestCrane" q.1 q.2 := List.forall_mem_append.mpr ⟨kt_X12_bestCrane_0 g, kt_X12_bestCrane_1 g⟩
set_option maxRecDepth 20000 in
theorem dX12_told_0 : decode cX12_told 0 = .ok (.aload_n 0, 1) := by decide +kernel
set_option maxRecDepth 20000 in
theorem dX12_told_1 : decode cX12_told 1 = .ok (.iload_n 1, 1) := by decide +kernel
set_option maxRecDepth 20000 in
theorem dX12_told_2 : decode cX12_told 2 = .ok (.iconst 3, 1) := by decide +kernel
set_option maxRecDepth 20000 in
theorem dX12_told_3 : decode cX12_told 3 = .ok (.bipush 6, 2) := by decide +kernel
set_option maxRecDepth 20000 in
theorem dX12_told_5 : decode cX12_told 5 = .ok (.invokevirtual 255, 3) := by decide +kernel
set_option maxRecDepth 20000 in
theorem dX12_told_8 : decode cX12_told 8 = .ok (.ifCond .eq 11, 3) := by decide +kernel
set_option maxRecDepth 20000 in
theorem dX12_told_11 : decode cX12_told 11 = .ok (.aload_n 0, 1) := by decide +kernel
set_option maxRecDepth 20000 in
theorem dX12_told_12 : decode cX12_told 12 = .ok (.iload_n 1, 1) := by decide +kernel
set_option maxRecDepth 20000 in
theorem dX12_told_13 : decode cX12_told 13 = .ok (.iconst 3, 1) := by decide +kernel
set_option maxRecDepth 20000 in
theorem dX12_told_14 : decode cX12_told 14 = .ok (.isub, 1) := by decide +kernel
set_option maxRecDepth 20000 in
theorem dX12_told_15 : decode cX12_told 15 = .ok (.invokevirtual 379, 3) := by decide +kernel
set_option maxRecDepth 20000 in
theorem dX12_told_18 : decode cX12_told 18 = .ok (.ireturn, 1) := by decide +kernel
set_option maxRecDepth 20000 in
theorem dX12_told_19 : decode cX12_told 19 = .ok (.aload_n 0, 1) := by decide +kernel
set_option maxRecDepth 20000 in
theorem dX12_told_20 : decode cX12_told 20 = .ok (.iload_n 1, 1) := by decide +kernel
set_option maxRecDepth 20000 in
theorem dX12_told_21 : decode cX12_told 21 = .ok (.bipush 10, 2) := by decide +kernel
set_option maxRecDepth 20000 in
theorem dX12_told_23 : decode cX12_told 23 = .ok (.bipush 13, 2) := by decide +kernel
set_option maxRecDepth 20000 in
theorem dX12_told_25 : decode cX12_told 25 = .ok (.invokevirtual 255, 3) := by decide +kernel
set_option maxRecDepth 20000 in
theorem dX12_told_28 : decode cX12_told 28 = .ok (.ifCond .eq 13, 3) := by decide +kernel
set_option maxRecDepth 20000 in
theorem dX12_told_31 : decode cX12_told 31 = .ok (.aload_n 0, 1) := by decide +kernel
set_option maxRecDepth 20000 in
theorem dX12_told_32 : decode cX12_told 32 = .ok (.getfield 19, 3) := by decide +kernel
set_option maxRecDepth 20000 in
theorem dX12_told_35 : decode cX12_told 35 = .ok (.iload_n 1, 1) := by decide +kernel
set_option maxRecDepth 20000 in
theorem dX12_told_36 : decode cX12_told 36 = .ok (.bipush 10, 2) := by decide +kernel
set_option maxRecDepth 20000 in
theorem dX12_told_38 : decode cX12_told 38 = .ok (.isub, 1) := by decide +kernel
set_option maxRecDepth 20000 in
theorem dX12_told_39 : decode cX12_told 39 = .ok (.iaload, 1) := by decide +kernel
set_option maxRecDepth 20000 in
theorem dX12_told_40 : decode cX12_told 40 = .ok (.ireturn, 1) := by decide +kernel
set_option maxRecDepth 20000 in
theorem dX12_told_41 : decode cX12_told 41 = .ok (.iload_n 1, 1) := by decide +kernel
set_option maxRecDepth 20000 in
theorem dX12_told_42 : decode cX12_told 42 = .ok (.tableswitch 41 0 2 #[26, 31, 36], 26) := by decide +kernel
set_option maxRecDepth 20000 in
theorem dX12_told_68 : decode cX12_told 68 = .ok (.aload_n 0, 1) := by decide +kernel
set_option maxRecDepth 20000 in
theorem dX12_told_69 : decode cX12_told 69 = .ok (.getfield 16, 3) := by decide +kernel
set_option maxRecDepth 20000 in
theorem dX12_told_72 : decode cX12_told 72 = .ok (.ireturn, 1) := by decide +kernel
set_option maxRecDepth 20000 in
theorem dX12_told_73 : decode cX12_told 73 = .ok (.aload_n 0, 1) := by decide +kernel
set_option maxRecDepth 20000 in
theorem dX12_told_74 : decode cX12_told 74 = .ok (.invokevirtual 347, 3) := by decide +kernel
set_option maxRecDepth 20000 in
theorem dX12_told_77 : decode cX12_told 77 = .ok (.ireturn, 1) := by decide +kernel
set_option maxRecDepth 20000 in
theorem dX12_told_78 : decode cX12_told 78 = .ok (.aload_n 0, 1) := by decide +kernel
set_option maxRecDepth 20000 in
theorem dX12_told_79 : decode cX12_told 79 = .ok (.invokevirtual 350, 3) := by decide +kernel
set_option maxRecDepth 20000 in
theorem dX12_told_82 : decode cX12_told 82 = .ok (.ireturn, 1) := by decide +kernel
set_option maxRecDepth 20000 in
theorem dX12_told_83 : decode cX12_told 83 = .ok (.iconst (-1), 1) := by decide +kernel
set_option maxRecDepth 20000 in
theorem dX12_told_84 : decode cX12_told 84 = .ok (.ireturn, 1) := by decide +kernel
set_option maxRecDepth 20000 in
theorem kt_X12_told_0 (g : gx_T) : ∀ q ∈ k_X12_told_0, gx_E g gc_md RX12 cX12_told 2 (some .int) "told" q.1 q.2 := List.forall_mem_cons.mpr ⟨(gs_aload_n dX12_told_0 rfl), List.forall_mem_cons.mpr ⟨
  (gs_iload_n dX12_told_1 rfl), List.forall_mem_cons.mpr ⟨
  (gs_iconst dX12_told_2 rfl), List.forall_mem_cons.mpr ⟨
  (gs_bipush dX12_told_3 rfl), List.forall_mem_cons.mpr ⟨
  (gs_cv dX12_told_5 (fun q hq => by
      simp only [List.mem_cons, List.not_mem_nil, or_false] at hq
      subst hq
      exact Or.inl ⟨_, rfl, by decide, by decide +kernel, by decide +kernel, List.forall_mem_cons.mpr ⟨gx_mem 1240 (by decide +kernel) (by decide +kernel), List.forall_mem_cons.mpr ⟨gx_mem 1242 (by decide +kernel) (by decide +kernel), List.forall_mem_cons.mpr ⟨gx_mem 21 (by decide +kernel) (by decide +kernel), List.forall_mem_cons.mpr ⟨gx_mem 96 (by decide +kernel) (by decide +kernel), List.forall_mem_cons.mpr ⟨cw_1243, fun _ h => absurd h List.not_mem_nil⟩⟩⟩⟩⟩⟩)), List.forall_mem_cons.mpr ⟨
  (gs_if_eq dX12_told_8 rfl), List.forall_mem_cons.mpr ⟨
  (gs_aload_n dX12_told_11 rfl), List.forall_mem_cons.mpr ⟨
  (gs_iload_n dX12_told_12 rfl), List.forall_mem_cons.mpr ⟨
  (gs_iconst dX12_told_13 rfl), List.forall_mem_cons.mpr ⟨
  (gs_isub dX12_told_14), List.forall_mem_cons.mpr ⟨
  (gs_cv dX12_told_15 (fun q hq => by
      simp only [List.mem_cons, List.not_mem_nil, or_false] at hq
      subst hq
      exact Or.inl ⟨_, rfl, by decide, by decide +kernel, by decide +kernel, List.forall_mem_cons.mpr ⟨gx_mem 1416 (by decide +kernel) (by decide +kernel), List.forall_mem_cons.mpr ⟨gx_mem 1418 (by decide +kernel) (by decide +kernel), List.forall_mem_cons.mpr ⟨gx_mem 56 (by decide +kernel) (by decide +kernel), List.forall_mem_cons.mpr ⟨gx_mem 96 (by decide +kernel) (by decide +kernel), List.forall_mem_cons.mpr ⟨cw_1419, fun _ h => absurd h List.not_mem_nil⟩⟩⟩⟩⟩⟩)), List.forall_mem_cons.mpr ⟨
  (gs_ri dX12_told_18), List.forall_mem_cons.mpr ⟨
  (gs_aload_n dX12_told_19 rfl), List.forall_mem_cons.mpr ⟨
  (gs_iload_n dX12_told_20 rfl), List.forall_mem_cons.mpr ⟨
  (gs_bipush dX12_told_21 rfl), List.forall_mem_cons.mpr ⟨
  (gs_bipush dX12_told_23 rfl), List.forall_mem_cons.mpr ⟨
  (gs_cv dX12_told_25 (fun q hq => by
      simp only [List.mem_cons, List.not_mem_nil, or_false] at hq
      subst hq
      exact Or.inl ⟨_, rfl, by decide, by decide +kernel, by decide +kernel, List.forall_mem_cons.mpr ⟨gx_mem 1240 (by decide +kernel) (by decide +kernel), List.forall_mem_cons.mpr ⟨gx_mem 1242 (by decide +kernel) (by decide +kernel), List.forall_mem_cons.mpr ⟨gx_mem 21 (by decide +kernel) (by decide +kernel), List.forall_mem_cons.mpr ⟨gx_mem 96 (by decide +kernel) (by decide +kernel), List.forall_mem_cons.mpr ⟨cw_1243, fun _ h => absurd h List.not_mem_nil⟩⟩⟩⟩⟩⟩)), List.forall_mem_cons.mpr ⟨
  (gs_if_eq dX12_told_28 rfl), List.forall_mem_cons.mpr ⟨
  (gs_aload_n dX12_told_31 rfl), List.forall_mem_cons.mpr ⟨
  (gs_gf (ref := "GriefCranesModel") dX12_told_32 (gx_mem 1000 (by decide +kernel) (by decide +kernel)) (Or.inl rfl) gf_12_3), List.forall_mem_cons.mpr ⟨
  (gs_iload_n dX12_told_35 rfl), List.forall_mem_cons.mpr ⟨
  (gs_bipush dX12_told_36 rfl), List.forall_mem_cons.mpr ⟨
  (gs_isub dX12_told_38), List.forall_mem_cons.mpr ⟨
  (gs_iaload dX12_told_39), List.forall_mem_cons.mpr ⟨
  (gs_ri dX12_told_40), List.forall_mem_cons.mpr ⟨
  (gs_iload_n dX12_told_41 rfl), List.forall_mem_cons.mpr ⟨
  (gs_tsw (lo := 0) (offs := [26, 31, 36]) dX12_told_42 (by decide +kernel) (by decide +kernel)), List.forall_mem_cons.mpr ⟨
  (gs_aload_n dX12_told_68 rfl), List.forall_mem_cons.mpr ⟨
  (gs_gf (ref := "GriefCranesModel") dX12_told_69 (gx_mem 999 (by decide +kernel) (by decide +kernel)) (Or.inl rfl) gf_12_2), List.forall_mem_cons.mpr ⟨
  (gs_ri dX12_told_72), List.forall_mem_cons.mpr ⟨
  (gs_aload_n dX12_told_73 rfl), List.forall_mem_cons.mpr ⟨
  (gs_cv dX12_told_74 (fun q hq => by
      simp only [List.mem_cons, List.not_mem_nil, or_false] at hq
      subst hq
      exact Or.inl ⟨_, rfl, by decide, by decide +kernel, by decide +kernel, List.forall_mem_cons.mpr ⟨gx_mem 1396 (by decide +kernel) (by decide +kernel), List.forall_mem_cons.mpr ⟨gx_mem 1398 (by decide +kernel) (by decide +kernel), List.forall_mem_cons.mpr ⟨gx_mem 52 (by decide +kernel) (by decide +kernel), List.forall_mem_cons.mpr ⟨gx_mem 96 (by decide +kernel) (by decide +kernel), List.forall_mem_cons.mpr ⟨cw_1399, fun _ h => absurd h List.not_mem_nil⟩⟩⟩⟩⟩⟩)), fun _ h => absurd h List.not_mem_nil⟩⟩⟩⟩⟩⟩⟩⟩⟩⟩⟩⟩⟩⟩⟩⟩⟩⟩⟩⟩⟩⟩⟩⟩⟩⟩⟩⟩⟩⟩⟩⟩
set_option maxRecDepth 20000 in
theorem kt_X12_told_1 (g : gx_T) : ∀ q ∈ k_X12_told_1, gx_E g gc_md RX12 cX12_told 2 (some .int) "told" q.1 q.2 := List.forall_mem_cons.mpr ⟨(gs_ri dX12_told_77), List.forall_mem_cons.mpr ⟨
  (gs_aload_n dX12_told_78 rfl), List.forall_mem_cons.mpr ⟨
  (gs_cv dX12_told_79 (fun q hq => by
      simp only [List.mem_cons, List.not_mem_nil, or_false] at hq
      subst hq
      exact Or.inl ⟨_, rfl, by decide, by decide +kernel, by decide +kernel, List.forall_mem_cons.mpr ⟨gx_mem 1404 (by decide +kernel) (by decide +kernel), List.forall_mem_cons.mpr ⟨gx_mem 1406 (by decide +kernel) (by decide +kernel), List.forall_mem_cons.mpr ⟨gx_mem 54 (by decide +kernel) (by decide +kernel), List.forall_mem_cons.mpr ⟨gx_mem 96 (by decide +kernel) (by decide +kernel), List.forall_mem_cons.mpr ⟨cw_1407, fun _ h => absurd h List.not_mem_nil⟩⟩⟩⟩⟩⟩)), List.forall_mem_cons.mpr ⟨
  (gs_ri dX12_told_82), List.forall_mem_cons.mpr ⟨
  (gs_iconst dX12_told_83 rfl), List.forall_mem_cons.mpr ⟨
  (gs_ri dX12_told_84), fun _ h => absurd h List.not_mem_nil⟩⟩⟩⟩⟩⟩
theorem kt_X12_told (g : gx_T) : ∀ q ∈ k_X12_told, gx_E g gc_md RX12 cX12_told 2 (some .int) "told" q.1 q.2 := List.forall_mem_append.mpr ⟨kt_X12_told_0 g, kt_X12_told_1 g⟩
set_option maxRecDepth 20000 in
theorem dX12_on_0 : decode cX12_on 0 = .ok (.aload_n 0, 1) := by decide +kernel
set_option maxRecDepth 20000 in
theorem dX12_on_1 : decode cX12_on 1 = .ok (.iload_n 2, 1) := by decide +kernel
set_option maxRecDepth 20000 in
theorem dX12_on_2 : decode cX12_on 2 = .ok (.iconst 0, 1) := by decide +kernel
set_option maxRecDepth 20000 in
theorem dX12_on_3 : decode cX12_on 3 = .ok (.iconst 1, 1) := by decide +kernel
set_option maxRecDepth 20000 in
theorem dX12_on_4 : decode cX12_on 4 = .ok (.invokevirtual 255, 3) := by decide +kernel
set_option maxRecDepth 20000 in
theorem dX12_on_7 : decode cX12_on 7 = .ok (.ifCond .ne 39, 3) := by decide +kernel
set_option maxRecDepth 20000 in
theorem dX12_on_10 : decode cX12_on 10 = .ok (.aload_n 0, 1) := by decide +kernel
set_option maxRecDepth 20000 in
theorem dX12_on_11 : decode cX12_on 11 = .ok (.iload_n 2, 1) := by decide +kernel
set_option maxRecDepth 20000 in
theorem dX12_on_12 : decode cX12_on 12 = .ok (.bipush 10, 2) := by decide +kernel
set_option maxRecDepth 20000 in
theorem dX12_on_14 : decode cX12_on 14 = .ok (.bipush 9, 2) := by decide +kernel
set_option maxRecDepth 20000 in
theorem dX12_on_16 : decode cX12_on 16 = .ok (.aload_n 0, 1) := by decide +kernel
set_option maxRecDepth 20000 in
theorem dX12_on_17 : decode cX12_on 17 = .ok (.getfield 13, 3) := by decide +kernel
set_option maxRecDepth 20000 in
theorem dX12_on_20 : decode cX12_on 20 = .ok (.iadd, 1) := by decide +kernel
set_option maxRecDepth 20000 in
theorem dX12_on_21 : decode cX12_on 21 = .ok (.invokevirtual 255, 3) := by decide +kernel
set_option maxRecDepth 20000 in
theorem dX12_on_24 : decode cX12_on 24 = .ok (.ifCond .ne 22, 3) := by decide +kernel
set_option maxRecDepth 20000 in
theorem dX12_on_27 : decode cX12_on 27 = .ok (.aload_n 0, 1) := by decide +kernel
set_option maxRecDepth 20000 in
theorem dX12_on_28 : decode cX12_on 28 = .ok (.iload_n 2, 1) := by decide +kernel
set_option maxRecDepth 20000 in
theorem dX12_on_29 : decode cX12_on 29 = .ok (.bipush 20, 2) := by decide +kernel
set_option maxRecDepth 20000 in
theorem dX12_on_31 : decode cX12_on 31 = .ok (.bipush 19, 2) := by decide +kernel
set_option maxRecDepth 20000 in
theorem dX12_on_33 : decode cX12_on 33 = .ok (.aload_n 0, 1) := by decide +kernel
set_option maxRecDepth 20000 in
theorem dX12_on_34 : decode cX12_on 34 = .ok (.getfield 13, 3) := by decide +kernel
set_option maxRecDepth 20000 in
theorem dX12_on_37 : decode cX12_on 37 = .ok (.iadd, 1) := by decide +kernel
set_option maxRecDepth 20000 in
theorem dX12_on_38 : decode cX12_on 38 = .ok (.invokevirtual 255, 3) := by decide +kernel
set_option maxRecDepth 20000 in
theorem dX12_on_41 : decode cX12_on 41 = .ok (.ifCond .ne 5, 3) := by decide +kernel
set_option maxRecDepth 20000 in
theorem dX12_on_44 : decode cX12_on 44 = .ok (.iconst (-1), 1) := by decide +kernel
set_option maxRecDepth 20000 in
theorem dX12_on_45 : decode cX12_on 45 = .ok (.ireturn, 1) := by decide +kernel
set_option maxRecDepth 20000 in
theorem dX12_on_46 : decode cX12_on 46 = .ok (.aload_n 0, 1) := by decide +kernel
set_option maxRecDepth 20000 in
theorem dX12_on_47 : decode cX12_on 47 = .ok (.iload_n 1, 1) := by decide +kernel
set_option maxRecDepth 20000 in
theorem dX12_on_48 : decode cX12_on 48 = .ok (.invokevirtual 363, 3) := by decide +kernel
set_option maxRecDepth 20000 in
theorem dX12_on_51 : decode cX12_on 51 = .ok (.ifCond .ne 6, 3) := by decide +kernel
set_option maxRecDepth 20000 in
theorem dX12_on_54 : decode cX12_on 54 = .ok (.bipush (-2), 2) := by decide +kernel
set_option maxRecDepth 20000 in
theorem dX12_on_56 : decode cX12_on 56 = .ok (.ireturn, 1) := by decide +kernel
set_option maxRecDepth 20000 in
theorem dX12_on_57 : decode cX12_on 57 = .ok (.aload_n 0, 1) := by decide +kernel
set_option maxRecDepth 20000 in
theorem dX12_on_58 : decode cX12_on 58 = .ok (.invokevirtual 370, 3) := by decide +kernel
set_option maxRecDepth 20000 in
theorem dX12_on_61 : decode cX12_on 61 = .ok (.aload_n 0, 1) := by decide +kernel
set_option maxRecDepth 20000 in
theorem dX12_on_62 : decode cX12_on 62 = .ok (.iload_n 1, 1) := by decide +kernel
set_option maxRecDepth 20000 in
theorem dX12_on_63 : decode cX12_on 63 = .ok (.invokevirtual 366, 3) := by decide +kernel
set_option maxRecDepth 20000 in
theorem dX12_on_66 : decode cX12_on 66 = .ok (.iload_n 2, 1) := by decide +kernel
set_option maxRecDepth 20000 in
theorem dX12_on_67 : decode cX12_on 67 = .ok (.ifCond .ne 15, 3) := by decide +kernel
set_option maxRecDepth 20000 in
theorem dX12_on_70 : decode cX12_on 70 = .ok (.aload_n 0, 1) := by decide +kernel
set_option maxRecDepth 20000 in
theorem dX12_on_71 : decode cX12_on 71 = .ok (.aload_n 0, 1) := by decide +kernel
set_option maxRecDepth 20000 in
theorem dX12_on_72 : decode cX12_on 72 = .ok (.iconst 2, 1) := by decide +kernel
set_option maxRecDepth 20000 in
theorem dX12_on_73 : decode cX12_on 73 = .ok (.invokevirtual 379, 3) := by decide +kernel
set_option maxRecDepth 20000 in
theorem dX12_on_76 : decode cX12_on 76 = .ok (.invokevirtual 382, 3) := by decide +kernel
set_option maxRecDepth 20000 in
theorem dX12_on_79 : decode cX12_on 79 = .ok (.goto 47, 3) := by decide +kernel
set_option maxRecDepth 20000 in
theorem dX12_on_82 : decode cX12_on 82 = .ok (.iload_n 2, 1) := by decide +kernel
set_option maxRecDepth 20000 in
theorem dX12_on_83 : decode cX12_on 83 = .ok (.iconst 1, 1) := by decide +kernel
set_option maxRecDepth 20000 in
theorem dX12_on_84 : decode cX12_on 84 = .ok (.if_icmp .ne 15, 3) := by decide +kernel
set_option maxRecDepth 20000 in
theorem dX12_on_87 : decode cX12_on 87 = .ok (.aload_n 0, 1) := by decide +kernel
set_option maxRecDepth 20000 in
theorem dX12_on_88 : decode cX12_on 88 = .ok (.aload_n 0, 1) := by decide +kernel
set_option maxRecDepth 20000 in
theorem dX12_on_89 : decode cX12_on 89 = .ok (.iconst 3, 1) := by decide +kernel
set_option maxRecDepth 20000 in
theorem dX12_on_90 : decode cX12_on 90 = .ok (.invokevirtual 379, 3) := by decide +kernel
set_option maxRecDepth 20000 in
theorem dX12_on_93 : decode cX12_on 93 = .ok (.invokevirtual 382, 3) := by decide +kernel
set_option maxRecDepth 20000 in
theorem dX12_on_96 : decode cX12_on 96 = .ok (.goto 30, 3) := by decide +kernel
set_option maxRecDepth 20000 in
theorem dX12_on_99 : decode cX12_on 99 = .ok (.iload_n 2, 1) := by decide +kernel
set_option maxRecDepth 20000 in
theorem dX12_on_100 : decode cX12_on 100 = .ok (.bipush 20, 2) := by decide +kernel
set_option maxRecDepth 20000 in
theorem dX12_on_102 : decode cX12_on 102 = .ok (.if_icmp .ge 15, 3) := by decide +kernel
set_option maxRecDepth 20000 in
theorem dX12_on_105 : decode cX12_on 105 = .ok (.aload_n 0, 1) := by decide +kernel
set_option maxRecDepth 20000 in
theorem dX12_on_106 : decode cX12_on 106 = .ok (.getfield 41, 3) := by decide +kernel
set_option maxRecDepth 20000 in
theorem dX12_on_109 : decode cX12_on 109 = .ok (.iload_n 2, 1) := by decide +kernel
set_option maxRecDepth 20000 in
theorem dX12_on_110 : decode cX12_on 110 = .ok (.bipush 10, 2) := by decide +kernel
set_option maxRecDepth 20000 in
theorem dX12_on_112 : decode cX12_on 112 = .ok (.isub, 1) := by decide +kernel
set_option maxRecDepth 20000 in
theorem dX12_on_113 : decode cX12_on 113 = .ok (.iaload, 1) := by decide +kernel
set_option maxRecDepth 20000 in
theorem dX12_on_114 : decode cX12_on 114 = .ok (.goto 12, 3) := by decide +kernel
set_option maxRecDepth 20000 in
theorem dX12_on_117 : decode cX12_on 117 = .ok (.aload_n 0, 1) := by decide +kernel
set_option maxRecDepth 20000 in
theorem dX12_on_118 : decode cX12_on 118 = .ok (.getfield 44, 3) := by decide +kernel
set_option maxRecDepth 20000 in
theorem dX12_on_121 : decode cX12_on 121 = .ok (.iload_n 2, 1) := by decide +kernel
set_option maxRecDepth 20000 in
theorem dX12_on_122 : decode cX12_on 122 = .ok (.bipush 20, 2) := by decide +kernel
set_option maxRecDepth 20000 in
theorem dX12_on_124 : decode cX12_on 124 = .ok (.isub, 1) := by decide +kernel
set_option maxRecDepth 20000 in
theorem dX12_on_125 : decode cX12_on 125 = .ok (.iaload, 1) := by decide +kernel
set_option maxRecDepth 20000 in
theorem dX12_on_126 : decode cX12_on 126 = .ok (.istore_n 3, 1) := by decide +kernel
set_option maxRecDepth 20000 in
theorem dX12_on_127 : decode cX12_on 127 = .ok (.aload_n 0, 1) := by decide +kernel
set_option maxRecDepth 20000 in
theorem dX12_on_128 : decode cX12_on 128 = .ok (.invokevirtual 373, 3) := by decide +kernel
set_option maxRecDepth 20000 in
theorem dX12_on_131 : decode cX12_on 131 = .ok (.iload_n 3, 1) := by decide +kernel
set_option maxRecDepth 20000 in
theorem dX12_on_132 : decode cX12_on 132 = .ok (.ireturn, 1) := by decide +kernel
set_option maxRecDepth 20000 in
theorem kt_X12_on_0 (g : gx_T) : ∀ q ∈ k_X12_on_0, gx_E g gc_md RX12 cX12_on 4 (some .int) "on" q.1 q.2 := List.forall_mem_cons.mpr ⟨(gs_aload_n dX12_on_0 rfl), List.forall_mem_cons.mpr ⟨
  (gs_iload_n dX12_on_1 rfl), List.forall_mem_cons.mpr ⟨
  (gs_iconst dX12_on_2 rfl), List.forall_mem_cons.mpr ⟨
  (gs_iconst dX12_on_3 rfl), List.forall_mem_cons.mpr ⟨
  (gs_cv dX12_on_4 (fun q hq => by
      simp only [List.mem_cons, List.not_mem_nil, or_false] at hq
      subst hq
      exact Or.inl ⟨_, rfl, by decide, by decide +kernel, by decide +kernel, List.forall_mem_cons.mpr ⟨gx_mem 1240 (by decide +kernel) (by decide +kernel), List.forall_mem_cons.mpr ⟨gx_mem 1242 (by decide +kernel) (by decide +kernel), List.forall_mem_cons.mpr ⟨gx_mem 21 (by decide +kernel) (by decide +kernel), List.forall_mem_cons.mpr ⟨gx_mem 96 (by decide +kernel) (by decide +kernel), List.forall_mem_cons.mpr ⟨cw_1243, fun _ h => absurd h List.not_mem_nil⟩⟩⟩⟩⟩⟩)), List.forall_mem_cons.mpr ⟨
  (gs_if_ne dX12_on_7 rfl), List.forall_mem_cons.mpr ⟨
  (gs_aload_n dX12_on_10 rfl), List.forall_mem_cons.mpr ⟨
  (gs_iload_n dX12_on_11 rfl), List.forall_mem_cons.mpr ⟨
  (gs_bipush dX12_on_12 rfl), List.forall_mem_cons.mpr ⟨
  (gs_bipush dX12_on_14 rfl), List.forall_mem_cons.mpr ⟨
  (gs_aload_n dX12_on_16 rfl), List.forall_mem_cons.mpr ⟨
  (gs_gf (ref := "GriefCranesModel") dX12_on_17 (gx_mem 998 (by decide +kernel) (by decide +kernel)) (Or.inl rfl) gf_12_1), List.forall_mem_cons.mpr ⟨
  (gs_iadd dX12_on_20), List.forall_mem_cons.mpr ⟨
  (gs_cv dX12_on_21 (fun q hq => by
      simp only [List.mem_cons, List.not_mem_nil, or_false] at hq
      subst hq
      exact Or.inl ⟨_, rfl, by decide, by decide +kernel, by decide +kernel, List.forall_mem_cons.mpr ⟨gx_mem 1240 (by decide +kernel) (by decide +kernel), List.forall_mem_cons.mpr ⟨gx_mem 1242 (by decide +kernel) (by decide +kernel), List.forall_mem_cons.mpr ⟨gx_mem 21 (by decide +kernel) (by decide +kernel), List.forall_mem_cons.mpr ⟨gx_mem 96 (by decide +kernel) (by decide +kernel), List.forall_mem_cons.mpr ⟨cw_1243, fun _ h => absurd h List.not_mem_nil⟩⟩⟩⟩⟩⟩)), List.forall_mem_cons.mpr ⟨
  (gs_if_ne dX12_on_24 rfl), List.forall_mem_cons.mpr ⟨
  (gs_aload_n dX12_on_27 rfl), List.forall_mem_cons.mpr ⟨
  (gs_iload_n dX12_on_28 rfl), List.forall_mem_cons.mpr ⟨
  (gs_bipush dX12_on_29 rfl), List.forall_mem_cons.mpr ⟨
  (gs_bipush dX12_on_31 rfl), List.forall_mem_cons.mpr ⟨
  (gs_aload_n dX12_on_33 rfl), List.forall_mem_cons.mpr ⟨
  (gs_gf (ref := "GriefCranesModel") dX12_on_34 (gx_mem 998 (by decide +kernel) (by decide +kernel)) (Or.inl rfl) gf_12_1), List.forall_mem_cons.mpr ⟨
  (gs_iadd dX12_on_37), List.forall_mem_cons.mpr ⟨
  (gs_cv dX12_on_38 (fun q hq => by
      simp only [List.mem_cons, List.not_mem_nil, or_false] at hq
      subst hq
      exact Or.inl ⟨_, rfl, by decide, by decide +kernel, by decide +kernel, List.forall_mem_cons.mpr ⟨gx_mem 1240 (by decide +kernel) (by decide +kernel), List.forall_mem_cons.mpr ⟨gx_mem 1242 (by decide +kernel) (by decide +kernel), List.forall_mem_cons.mpr ⟨gx_mem 21 (by decide +kernel) (by decide +kernel), List.forall_mem_cons.mpr ⟨gx_mem 96 (by decide +kernel) (by decide +kernel), List.forall_mem_cons.mpr ⟨cw_1243, fun _ h => absurd h List.not_mem_nil⟩⟩⟩⟩⟩⟩)), List.forall_mem_cons.mpr ⟨
  (gs_if_ne dX12_on_41 rfl), List.forall_mem_cons.mpr ⟨
  (gs_iconst dX12_on_44 rfl), List.forall_mem_cons.mpr ⟨
  (gs_ri dX12_on_45), List.forall_mem_cons.mpr ⟨
  (gs_aload_n dX12_on_46 rfl), List.forall_mem_cons.mpr ⟨
  (gs_iload_n dX12_on_47 rfl), List.forall_mem_cons.mpr ⟨
  (gs_cv dX12_on_48 (fun q hq => by
      simp only [List.mem_cons, List.not_mem_nil, or_false] at hq
      subst hq
      exact Or.inl ⟨_, rfl, by decide, by decide +kernel, by decide +kernel, List.forall_mem_cons.mpr ⟨gx_mem 1380 (by decide +kernel) (by decide +kernel), List.forall_mem_cons.mpr ⟨gx_mem 1382 (by decide +kernel) (by decide +kernel), List.forall_mem_cons.mpr ⟨gx_mem 48 (by decide +kernel) (by decide +kernel), List.forall_mem_cons.mpr ⟨gx_mem 96 (by decide +kernel) (by decide +kernel), List.forall_mem_cons.mpr ⟨cw_1383, fun _ h => absurd h List.not_mem_nil⟩⟩⟩⟩⟩⟩)), List.forall_mem_cons.mpr ⟨
  (gs_if_ne dX12_on_51 rfl), List.forall_mem_cons.mpr ⟨
  (gs_bipush dX12_on_54 rfl), List.forall_mem_cons.mpr ⟨
  (gs_ri dX12_on_56), fun _ h => absurd h List.not_mem_nil⟩⟩⟩⟩⟩⟩⟩⟩⟩⟩⟩⟩⟩⟩⟩⟩⟩⟩⟩⟩⟩⟩⟩⟩⟩⟩⟩⟩⟩⟩⟩⟩
set_option maxRecDepth 20000 in
theorem kt_X12_on_1 (g : gx_T) : ∀ q ∈ k_X12_on_1, gx_E g gc_md RX12 cX12_on 4 (some .int) "on" q.1 q.2 := List.forall_mem_cons.mpr ⟨(gs_aload_n dX12_on_57 rfl), List.forall_mem_cons.mpr ⟨
  (gs_cv dX12_on_58 (fun q hq => by
      simp only [List.mem_cons, List.not_mem_nil, or_false] at hq
      subst hq
      exact Or.inl ⟨_, rfl, by decide, by decide +kernel, by decide +kernel, List.forall_mem_cons.mpr ⟨gx_mem 1424 (by decide +kernel) (by decide +kernel), List.forall_mem_cons.mpr ⟨gx_mem 1426 (by decide +kernel) (by decide +kernel), List.forall_mem_cons.mpr ⟨gx_mem 57 (by decide +kernel) (by decide +kernel), List.forall_mem_cons.mpr ⟨gx_mem 96 (by decide +kernel) (by decide +kernel), List.forall_mem_cons.mpr ⟨cw_1427, fun _ h => absurd h List.not_mem_nil⟩⟩⟩⟩⟩⟩)), List.forall_mem_cons.mpr ⟨
  (gs_aload_n dX12_on_61 rfl), List.forall_mem_cons.mpr ⟨
  (gs_iload_n dX12_on_62 rfl), List.forall_mem_cons.mpr ⟨
  (gs_cv dX12_on_63 (fun q hq => by
      simp only [List.mem_cons, List.not_mem_nil, or_false] at hq
      subst hq
      exact Or.inl ⟨_, rfl, by decide, by decide +kernel, by decide +kernel, List.forall_mem_cons.mpr ⟨gx_mem 1384 (by decide +kernel) (by decide +kernel), List.forall_mem_cons.mpr ⟨gx_mem 1386 (by decide +kernel) (by decide +kernel), List.forall_mem_cons.mpr ⟨gx_mem 49 (by decide +kernel) (by decide +kernel), List.forall_mem_cons.mpr ⟨gx_mem 96 (by decide +kernel) (by decide +kernel), List.forall_mem_cons.mpr ⟨cw_1387, fun _ h => absurd h List.not_mem_nil⟩⟩⟩⟩⟩⟩)), List.forall_mem_cons.mpr ⟨
  (gs_iload_n dX12_on_66 rfl), List.forall_mem_cons.mpr ⟨
  (gs_if_ne dX12_on_67 rfl), List.forall_mem_cons.mpr ⟨
  (gs_aload_n dX12_on_70 rfl), List.forall_mem_cons.mpr ⟨
  (gs_aload_n dX12_on_71 rfl), List.forall_mem_cons.mpr ⟨
  (gs_iconst dX12_on_72 rfl), List.forall_mem_cons.mpr ⟨
  (gs_cv dX12_on_73 (fun q hq => by
      simp only [List.mem_cons, List.not_mem_nil, or_false] at hq
      subst hq
      exact Or.inl ⟨_, rfl, by decide, by decide +kernel, by decide +kernel, List.forall_mem_cons.mpr ⟨gx_mem 1416 (by decide +kernel) (by decide +kernel), List.forall_mem_cons.mpr ⟨gx_mem 1418 (by decide +kernel) (by decide +kernel), List.forall_mem_cons.mpr ⟨gx_mem 56 (by decide +kernel) (by decide +kernel), List.forall_mem_cons.mpr ⟨gx_mem 96 (by decide +kernel) (by decide +kernel), List.forall_mem_cons.mpr ⟨cw_1419, fun _ h => absurd h List.not_mem_nil⟩⟩⟩⟩⟩⟩)), List.forall_mem_cons.mpr ⟨
  (gs_cv dX12_on_76 (fun q hq => by
      simp only [List.mem_cons, List.not_mem_nil, or_false] at hq
      subst hq
      exact Or.inl ⟨_, rfl, by decide, by decide +kernel, by decide +kernel, List.forall_mem_cons.mpr ⟨gx_mem 1429 (by decide +kernel) (by decide +kernel), List.forall_mem_cons.mpr ⟨gx_mem 1431 (by decide +kernel) (by decide +kernel), List.forall_mem_cons.mpr ⟨gx_mem 58 (by decide +kernel) (by decide +kernel), List.forall_mem_cons.mpr ⟨gx_mem 96 (by decide +kernel) (by decide +kernel), List.forall_mem_cons.mpr ⟨cw_1432, fun _ h => absurd h List.not_mem_nil⟩⟩⟩⟩⟩⟩)), List.forall_mem_cons.mpr ⟨
  (gs_goto dX12_on_79 rfl), List.forall_mem_cons.mpr ⟨
  (gs_iload_n dX12_on_82 rfl), List.forall_mem_cons.mpr ⟨
  (gs_iconst dX12_on_83 rfl), List.forall_mem_cons.mpr ⟨
  (gs_icmp_ne dX12_on_84 rfl), List.forall_mem_cons.mpr ⟨
  (gs_aload_n dX12_on_87 rfl), List.forall_mem_cons.mpr ⟨
  (gs_aload_n dX12_on_88 rfl), List.forall_mem_cons.mpr ⟨
  (gs_iconst dX12_on_89 rfl), List.forall_mem_cons.mpr ⟨
  (gs_cv dX12_on_90 (fun q hq => by
      simp only [List.mem_cons, List.not_mem_nil, or_false] at hq
      subst hq
      exact Or.inl ⟨_, rfl, by decide, by decide +kernel, by decide +kernel, List.forall_mem_cons.mpr ⟨gx_mem 1416 (by decide +kernel) (by decide +kernel), List.forall_mem_cons.mpr ⟨gx_mem 1418 (by decide +kernel) (by decide +kernel), List.forall_mem_cons.mpr ⟨gx_mem 56 (by decide +kernel) (by decide +kernel), List.forall_mem_cons.mpr ⟨gx_mem 96 (by decide +kernel) (by decide +kernel), List.forall_mem_cons.mpr ⟨cw_1419, fun _ h => absurd h List.not_mem_nil⟩⟩⟩⟩⟩⟩)), List.forall_mem_cons.mpr ⟨
  (gs_cv dX12_on_93 (fun q hq => by
      simp only [List.mem_cons, List.not_mem_nil, or_false] at hq
      subst hq
      exact Or.inl ⟨_, rfl, by decide, by decide +kernel, by decide +kernel, List.forall_mem_cons.mpr ⟨gx_mem 1429 (by decide +kernel) (by decide +kernel), List.forall_mem_cons.mpr ⟨gx_mem 1431 (by decide +kernel) (by decide +kernel), List.forall_mem_cons.mpr ⟨gx_mem 58 (by decide +kernel) (by decide +kernel), List.forall_mem_cons.mpr ⟨gx_mem 96 (by decide +kernel) (by decide +kernel), List.forall_mem_cons.mpr ⟨cw_1432, fun _ h => absurd h List.not_mem_nil⟩⟩⟩⟩⟩⟩)), List.forall_mem_cons.mpr ⟨
  (gs_goto dX12_on_96 rfl), List.forall_mem_cons.mpr ⟨
  (gs_iload_n dX12_on_99 rfl), List.forall_mem_cons.mpr ⟨
  (gs_bipush dX12_on_100 rfl), List.forall_mem_cons.mpr ⟨
  (gs_icmp_ge dX12_on_102 rfl), List.forall_mem_cons.mpr ⟨
  (gs_aload_n dX12_on_105 rfl), List.forall_mem_cons.mpr ⟨
  (gs_gf (ref := "GriefCranesModel") dX12_on_106 (gx_mem 1007 (by decide +kernel) (by decide +kernel)) (Or.inl rfl) gf_12_10), List.forall_mem_cons.mpr ⟨
  (gs_iload_n dX12_on_109 rfl), List.forall_mem_cons.mpr ⟨
  (gs_bipush dX12_on_110 rfl), List.forall_mem_cons.mpr ⟨
  (gs_isub dX12_on_112), List.forall_mem_cons.mpr ⟨
  (gs_iaload dX12_on_113), List.forall_mem_cons.mpr ⟨
  (gs_goto dX12_on_114 rfl), fun _ h => absurd h List.not_mem_nil⟩⟩⟩⟩⟩⟩⟩⟩⟩⟩⟩⟩⟩⟩⟩⟩⟩⟩⟩⟩⟩⟩⟩⟩⟩⟩⟩⟩⟩⟩⟩⟩
set_option maxRecDepth 20000 in
theorem kt_X12_on_2 (g : gx_T) : ∀ q ∈ k_X12_on_2, gx_E g gc_md RX12 cX12_on 4 (some .int) "on" q.1 q.2 := List.forall_mem_cons.mpr ⟨(gs_aload_n dX12_on_117 rfl), List.forall_mem_cons.mpr ⟨
  (gs_gf (ref := "GriefCranesModel") dX12_on_118 (gx_mem 1008 (by decide +kernel) (by decide +kernel)) (Or.inl rfl) gf_12_11), List.forall_mem_cons.mpr ⟨
  (gs_iload_n dX12_on_121 rfl), List.forall_mem_cons.mpr ⟨
  (gs_bipush dX12_on_122 rfl), List.forall_mem_cons.mpr ⟨
  (gs_isub dX12_on_124), List.forall_mem_cons.mpr ⟨
  (gs_iaload dX12_on_125), List.forall_mem_cons.mpr ⟨
  (gs_istore_n dX12_on_126 rfl), List.forall_mem_cons.mpr ⟨
  (gs_aload_n dX12_on_127 rfl), List.forall_mem_cons.mpr ⟨
  (gs_cv dX12_on_128 (fun q hq => by
      simp only [List.mem_cons, List.not_mem_nil, or_false] at hq
      subst hq
      exact Or.inl ⟨_, rfl, by decide, by decide +kernel, by decide +kernel, List.forall_mem_cons.mpr ⟨gx_mem 1437 (by decide +kernel) (by decide +kernel), List.forall_mem_cons.mpr ⟨gx_mem 1439 (by decide +kernel) (by decide +kernel), List.forall_mem_cons.mpr ⟨gx_mem 60 (by decide +kernel) (by decide +kernel), List.forall_mem_cons.mpr ⟨gx_mem 96 (by decide +kernel) (by decide +kernel), List.forall_mem_cons.mpr ⟨cw_1440, fun _ h => absurd h List.not_mem_nil⟩⟩⟩⟩⟩⟩)), List.forall_mem_cons.mpr ⟨
  (gs_iload_n dX12_on_131 rfl), List.forall_mem_cons.mpr ⟨
  (gs_ri dX12_on_132), fun _ h => absurd h List.not_mem_nil⟩⟩⟩⟩⟩⟩⟩⟩⟩⟩⟩
theorem kt_X12_on (g : gx_T) : ∀ q ∈ k_X12_on, gx_E g gc_md RX12 cX12_on 4 (some .int) "on" q.1 q.2 := List.forall_mem_append.mpr ⟨kt_X12_on_0 g, List.forall_mem_append.mpr ⟨kt_X12_on_1 g, kt_X12_on_2 g⟩⟩
set_option maxRecDepth 20000 in
theorem dX12_fallenBy_0 : decode cX12_fallenBy 0 = .ok (.aload_n 0, 1) := by decide +kernel
set_option maxRecDepth 20000 in
theorem dX12_fallenBy_1 : decode cX12_fallenBy 1 = .ok (.invokevirtual 370, 3) := by decide +kernel
set_option maxRecDepth 20000 in
theorem dX12_fallenBy_4 : decode cX12_fallenBy 4 = .ok (.aload_n 0, 1) := by decide +kernel
set_option maxRecDepth 20000 in
theorem dX12_fallenBy_5 : decode cX12_fallenBy 5 = .ok (.getfield 38, 3) := by decide +kernel
set_option maxRecDepth 20000 in
theorem dX12_fallenBy_8 : decode cX12_fallenBy 8 = .ok (.iload_n 1, 1) := by decide +kernel
set_option maxRecDepth 20000 in
theorem dX12_fallenBy_9 : decode cX12_fallenBy 9 = .ok (.iaload, 1) := by decide +kernel
set_option maxRecDepth 20000 in
theorem dX12_fallenBy_10 : decode cX12_fallenBy 10 = .ok (.istore 4, 2) := by decide +kernel
set_option maxRecDepth 20000 in
theorem dX12_fallenBy_12 : decode cX12_fallenBy 12 = .ok (.aload_n 0, 1) := by decide +kernel
set_option maxRecDepth 20000 in
theorem dX12_fallenBy_13 : decode cX12_fallenBy 13 = .ok (.getfield 38, 3) := by decide +kernel
set_option maxRecDepth 20000 in
theorem dX12_fallenBy_16 : decode cX12_fallenBy 16 = .ok (.iload_n 1, 1) := by decide +kernel
set_option maxRecDepth 20000 in
theorem dX12_fallenBy_17 : decode cX12_fallenBy 17 = .ok (.aload_n 0, 1) := by decide +kernel
set_option maxRecDepth 20000 in
theorem dX12_fallenBy_18 : decode cX12_fallenBy 18 = .ok (.getfield 38, 3) := by decide +kernel
set_option maxRecDepth 20000 in
theorem dX12_fallenBy_21 : decode cX12_fallenBy 21 = .ok (.iload_n 2, 1) := by decide +kernel
set_option maxRecDepth 20000 in
theorem dX12_fallenBy_22 : decode cX12_fallenBy 22 = .ok (.iaload, 1) := by decide +kernel
set_option maxRecDepth 20000 in
theorem dX12_fallenBy_23 : decode cX12_fallenBy 23 = .ok (.iastore, 1) := by decide +kernel
set_option maxRecDepth 20000 in
theorem dX12_fallenBy_24 : decode cX12_fallenBy 24 = .ok (.aload_n 0, 1) := by decide +kernel
set_option maxRecDepth 20000 in
theorem dX12_fallenBy_25 : decode cX12_fallenBy 25 = .ok (.getfield 38, 3) := by decide +kernel
set_option maxRecDepth 20000 in
theorem dX12_fallenBy_28 : decode cX12_fallenBy 28 = .ok (.iload_n 2, 1) := by decide +kernel
set_option maxRecDepth 20000 in
theorem dX12_fallenBy_29 : decode cX12_fallenBy 29 = .ok (.iload 4, 2) := by decide +kernel
set_option maxRecDepth 20000 in
theorem dX12_fallenBy_31 : decode cX12_fallenBy 31 = .ok (.iastore, 1) := by decide +kernel
set_option maxRecDepth 20000 in
theorem dX12_fallenBy_32 : decode cX12_fallenBy 32 = .ok (.aload_n 0, 1) := by decide +kernel
set_option maxRecDepth 20000 in
theorem dX12_fallenBy_33 : decode cX12_fallenBy 33 = .ok (.iload_n 3, 1) := by decide +kernel
set_option maxRecDepth 20000 in
theorem dX12_fallenBy_34 : decode cX12_fallenBy 34 = .ok (.invokevirtual 366, 3) := by decide +kernel
set_option maxRecDepth 20000 in
theorem dX12_fallenBy_37 : decode cX12_fallenBy 37 = .ok (.aload_n 0, 1) := by decide +kernel
set_option maxRecDepth 20000 in
theorem dX12_fallenBy_38 : decode cX12_fallenBy 38 = .ok (.aload_n 0, 1) := by decide +kernel
set_option maxRecDepth 20000 in
theorem dX12_fallenBy_39 : decode cX12_fallenBy 39 = .ok (.iconst 3, 1) := by decide +kernel
set_option maxRecDepth 20000 in
theorem dX12_fallenBy_40 : decode cX12_fallenBy 40 = .ok (.invokevirtual 379, 3) := by decide +kernel
set_option maxRecDepth 20000 in
theorem dX12_fallenBy_43 : decode cX12_fallenBy 43 = .ok (.invokevirtual 382, 3) := by decide +kernel
set_option maxRecDepth 20000 in
theorem dX12_fallenBy_46 : decode cX12_fallenBy 46 = .ok (.istore 5, 2) := by decide +kernel
set_option maxRecDepth 20000 in
theorem dX12_fallenBy_48 : decode cX12_fallenBy 48 = .ok (.aload_n 0, 1) := by decide +kernel
set_option maxRecDepth 20000 in
theorem dX12_fallenBy_49 : decode cX12_fallenBy 49 = .ok (.invokevirtual 373, 3) := by decide +kernel
set_option maxRecDepth 20000 in
theorem dX12_fallenBy_52 : decode cX12_fallenBy 52 = .ok (.iload 5, 2) := by decide +kernel
set_option maxRecDepth 20000 in
theorem dX12_fallenBy_54 : decode cX12_fallenBy 54 = .ok (.ireturn, 1) := by decide +kernel
set_option maxRecDepth 20000 in
theorem kt_X12_fallenBy_0 (g : gx_T) : ∀ q ∈ k_X12_fallenBy_0, gx_E g gc_md RX12 cX12_fallenBy 6 (some .int) "fallenBy" q.1 q.2 := List.forall_mem_cons.mpr ⟨(gs_aload_n dX12_fallenBy_0 rfl), List.forall_mem_cons.mpr ⟨
  (gs_cv dX12_fallenBy_1 (fun q hq => by
      simp only [List.mem_cons, List.not_mem_nil, or_false] at hq
      subst hq
      exact Or.inl ⟨_, rfl, by decide, by decide +kernel, by decide +kernel, List.forall_mem_cons.mpr ⟨gx_mem 1424 (by decide +kernel) (by decide +kernel), List.forall_mem_cons.mpr ⟨gx_mem 1426 (by decide +kernel) (by decide +kernel), List.forall_mem_cons.mpr ⟨gx_mem 57 (by decide +kernel) (by decide +kernel), List.forall_mem_cons.mpr ⟨gx_mem 96 (by decide +kernel) (by decide +kernel), List.forall_mem_cons.mpr ⟨cw_1427, fun _ h => absurd h List.not_mem_nil⟩⟩⟩⟩⟩⟩)), List.forall_mem_cons.mpr ⟨
  (gs_aload_n dX12_fallenBy_4 rfl), List.forall_mem_cons.mpr ⟨
  (gs_gf (ref := "GriefCranesModel") dX12_fallenBy_5 (gx_mem 1006 (by decide +kernel) (by decide +kernel)) (Or.inl rfl) gf_12_9), List.forall_mem_cons.mpr ⟨
  (gs_iload_n dX12_fallenBy_8 rfl), List.forall_mem_cons.mpr ⟨
  (gs_iaload dX12_fallenBy_9), List.forall_mem_cons.mpr ⟨
  (gs_istore dX12_fallenBy_10), List.forall_mem_cons.mpr ⟨
  (gs_aload_n dX12_fallenBy_12 rfl), List.forall_mem_cons.mpr ⟨
  (gs_gf (ref := "GriefCranesModel") dX12_fallenBy_13 (gx_mem 1006 (by decide +kernel) (by decide +kernel)) (Or.inl rfl) gf_12_9), List.forall_mem_cons.mpr ⟨
  (gs_iload_n dX12_fallenBy_16 rfl), List.forall_mem_cons.mpr ⟨
  (gs_aload_n dX12_fallenBy_17 rfl), List.forall_mem_cons.mpr ⟨
  (gs_gf (ref := "GriefCranesModel") dX12_fallenBy_18 (gx_mem 1006 (by decide +kernel) (by decide +kernel)) (Or.inl rfl) gf_12_9), List.forall_mem_cons.mpr ⟨
  (gs_iload_n dX12_fallenBy_21 rfl), List.forall_mem_cons.mpr ⟨
  (gs_iaload dX12_fallenBy_22), List.forall_mem_cons.mpr ⟨
  (gs_iastore dX12_fallenBy_23), List.forall_mem_cons.mpr ⟨
  (gs_aload_n dX12_fallenBy_24 rfl), List.forall_mem_cons.mpr ⟨
  (gs_gf (ref := "GriefCranesModel") dX12_fallenBy_25 (gx_mem 1006 (by decide +kernel) (by decide +kernel)) (Or.inl rfl) gf_12_9), List.forall_mem_cons.mpr ⟨
  (gs_iload_n dX12_fallenBy_28 rfl), List.forall_mem_cons.mpr ⟨
  (gs_iload dX12_fallenBy_29), List.forall_mem_cons.mpr ⟨
  (gs_iastore dX12_fallenBy_31), List.forall_mem_cons.mpr ⟨
  (gs_aload_n dX12_fallenBy_32 rfl), List.forall_mem_cons.mpr ⟨
  (gs_iload_n dX12_fallenBy_33 rfl), List.forall_mem_cons.mpr ⟨
  (gs_cv dX12_fallenBy_34 (fun q hq => by
      simp only [List.mem_cons, List.not_mem_nil, or_false] at hq
      subst hq
      exact Or.inl ⟨_, rfl, by decide, by decide +kernel, by decide +kernel, List.forall_mem_cons.mpr ⟨gx_mem 1384 (by decide +kernel) (by decide +kernel), List.forall_mem_cons.mpr ⟨gx_mem 1386 (by decide +kernel) (by decide +kernel), List.forall_mem_cons.mpr ⟨gx_mem 49 (by decide +kernel) (by decide +kernel), List.forall_mem_cons.mpr ⟨gx_mem 96 (by decide +kernel) (by decide +kernel), List.forall_mem_cons.mpr ⟨cw_1387, fun _ h => absurd h List.not_mem_nil⟩⟩⟩⟩⟩⟩)), List.forall_mem_cons.mpr ⟨
  (gs_aload_n dX12_fallenBy_37 rfl), List.forall_mem_cons.mpr ⟨
  (gs_aload_n dX12_fallenBy_38 rfl), List.forall_mem_cons.mpr ⟨
  (gs_iconst dX12_fallenBy_39 rfl), List.forall_mem_cons.mpr ⟨
  (gs_cv dX12_fallenBy_40 (fun q hq => by
      simp only [List.mem_cons, List.not_mem_nil, or_false] at hq
      subst hq
      exact Or.inl ⟨_, rfl, by decide, by decide +kernel, by decide +kernel, List.forall_mem_cons.mpr ⟨gx_mem 1416 (by decide +kernel) (by decide +kernel), List.forall_mem_cons.mpr ⟨gx_mem 1418 (by decide +kernel) (by decide +kernel), List.forall_mem_cons.mpr ⟨gx_mem 56 (by decide +kernel) (by decide +kernel), List.forall_mem_cons.mpr ⟨gx_mem 96 (by decide +kernel) (by decide +kernel), List.forall_mem_cons.mpr ⟨cw_1419, fun _ h => absurd h List.not_mem_nil⟩⟩⟩⟩⟩⟩)), List.forall_mem_cons.mpr ⟨
  (gs_cv dX12_fallenBy_43 (fun q hq => by
      simp only [List.mem_cons, List.not_mem_nil, or_false] at hq
      subst hq
      exact Or.inl ⟨_, rfl, by decide, by decide +kernel, by decide +kernel, List.forall_mem_cons.mpr ⟨gx_mem 1429 (by decide +kernel) (by decide +kernel), List.forall_mem_cons.mpr ⟨gx_mem 1431 (by decide +kernel) (by decide +kernel), List.forall_mem_cons.mpr ⟨gx_mem 58 (by decide +kernel) (by decide +kernel), List.forall_mem_cons.mpr ⟨gx_mem 96 (by decide +kernel) (by decide +kernel), List.forall_mem_cons.mpr ⟨cw_1432, fun _ h => absurd h List.not_mem_nil⟩⟩⟩⟩⟩⟩)), List.forall_mem_cons.mpr ⟨
  (gs_istore dX12_fallenBy_46), List.forall_mem_cons.mpr ⟨
  (gs_aload_n dX12_fallenBy_48 rfl), List.forall_mem_cons.mpr ⟨
  (gs_cv dX12_fallenBy_49 (fun q hq => by
      simp only [List.mem_cons, List.not_mem_nil, or_false] at hq
      subst hq
      exact Or.inl ⟨_, rfl, by decide, by decide +kernel, by decide +kernel, List.forall_mem_cons.mpr ⟨gx_mem 1437 (by decide +kernel) (by decide +kernel), List.forall_mem_cons.mpr ⟨gx_mem 1439 (by decide +kernel) (by decide +kernel), List.forall_mem_cons.mpr ⟨gx_mem 60 (by decide +kernel) (by decide +kernel), List.forall_mem_cons.mpr ⟨gx_mem 96 (by decide +kernel) (by decide +kernel), List.forall_mem_cons.mpr ⟨cw_1440, fun _ h => absurd h List.not_mem_nil⟩⟩⟩⟩⟩⟩)), List.forall_mem_cons.mpr ⟨
  (gs_iload dX12_fallenBy_52), fun _ h => absurd h List.not_mem_nil⟩⟩⟩⟩⟩⟩⟩⟩⟩⟩⟩⟩⟩⟩⟩⟩⟩⟩⟩⟩⟩⟩⟩⟩⟩⟩⟩⟩⟩⟩⟩⟩
set_option maxRecDepth 20000 in
theorem kt_X12_fallenBy_1 (g : gx_T) : ∀ q ∈ k_X12_fallenBy_1, gx_E g gc_md RX12 cX12_fallenBy 6 (some .int) "fallenBy" q.1 q.2 := List.forall_mem_cons.mpr ⟨(gs_ri dX12_fallenBy_54), fun _ h => absurd h List.not_mem_nil⟩
theorem kt_X12_fallenBy (g : gx_T) : ∀ q ∈ k_X12_fallenBy, gx_E g gc_md RX12 cX12_fallenBy 6 (some .int) "fallenBy" q.1 q.2 := List.forall_mem_append.mpr ⟨kt_X12_fallenBy_0 g, kt_X12_fallenBy_1 g⟩
set_option maxRecDepth 20000 in
theorem dX12_changed_0 : decode cX12_changed 0 = .ok (.bipush (-5), 2) := by decide +kernel
set_option maxRecDepth 20000 in
theorem dX12_changed_2 : decode cX12_changed 2 = .ok (.istore_n 2, 1) := by decide +kernel
set_option maxRecDepth 20000 in
theorem dX12_changed_3 : decode cX12_changed 3 = .ok (.aload_n 0, 1) := by decide +kernel
set_option maxRecDepth 20000 in
theorem dX12_changed_4 : decode cX12_changed 4 = .ok (.iload_n 1, 1) := by decide +kernel
set_option maxRecDepth 20000 in
theorem dX12_changed_5 : decode cX12_changed 5 = .ok (.iconst 1, 1) := by decide +kernel
set_option maxRecDepth 20000 in
theorem dX12_changed_6 : decode cX12_changed 6 = .ok (.invokevirtual 385, 3) := by decide +kernel
set_option maxRecDepth 20000 in
theorem dX12_changed_9 : decode cX12_changed 9 = .ok (.istore_n 3, 1) := by decide +kernel
set_option maxRecDepth 20000 in
theorem dX12_changed_10 : decode cX12_changed 10 = .ok (.iconst 0, 1) := by decide +kernel
set_option maxRecDepth 20000 in
theorem dX12_changed_11 : decode cX12_changed 11 = .ok (.istore 4, 2) := by decide +kernel
set_option maxRecDepth 20000 in
theorem dX12_changed_13 : decode cX12_changed 13 = .ok (.iload 4, 2) := by decide +kernel
set_option maxRecDepth 20000 in
theorem dX12_changed_15 : decode cX12_changed 15 = .ok (.aload_n 0, 1) := by decide +kernel
set_option maxRecDepth 20000 in
theorem dX12_changed_16 : decode cX12_changed 16 = .ok (.getfield 13, 3) := by decide +kernel
set_option maxRecDepth 20000 in
theorem dX12_changed_19 : decode cX12_changed 19 = .ok (.if_icmp .ge 85, 3) := by decide +kernel
set_option maxRecDepth 20000 in
theorem dX12_changed_22 : decode cX12_changed 22 = .ok (.iload 4, 2) := by decide +kernel
set_option maxRecDepth 20000 in
theorem dX12_changed_24 : decode cX12_changed 24 = .ok (.iconst 1, 1) := by decide +kernel
set_option maxRecDepth 20000 in
theorem dX12_changed_25 : decode cX12_changed 25 = .ok (.iadd, 1) := by decide +kernel
set_option maxRecDepth 20000 in
theorem dX12_changed_26 : decode cX12_changed 26 = .ok (.istore 5, 2) := by decide +kernel
set_option maxRecDepth 20000 in
theorem dX12_changed_28 : decode cX12_changed 28 = .ok (.iload 5, 2) := by decide +kernel
set_option maxRecDepth 20000 in
theorem dX12_changed_30 : decode cX12_changed 30 = .ok (.aload_n 0, 1) := by decide +kernel
set_option maxRecDepth 20000 in
theorem dX12_changed_31 : decode cX12_changed 31 = .ok (.getfield 13, 3) := by decide +kernel
set_option maxRecDepth 20000 in
theorem dX12_changed_34 : decode cX12_changed 34 = .ok (.if_icmp .ge 64, 3) := by decide +kernel
set_option maxRecDepth 20000 in
theorem dX12_changed_37 : decode cX12_changed 37 = .ok (.aload_n 0, 1) := by decide +kernel
set_option maxRecDepth 20000 in
theorem dX12_changed_38 : decode cX12_changed 38 = .ok (.getfield 41, 3) := by decide +kernel
set_option maxRecDepth 20000 in
theorem dX12_changed_41 : decode cX12_changed 41 = .ok (.iload 4, 2) := by decide +kernel
set_option maxRecDepth 20000 in
theorem dX12_changed_43 : decode cX12_changed 43 = .ok (.iaload, 1) := by decide +kernel
set_option maxRecDepth 20000 in
theorem dX12_changed_44 : decode cX12_changed 44 = .ok (.ifCond .ne 48, 3) := by decide +kernel
set_option maxRecDepth 20000 in
theorem dX12_changed_47 : decode cX12_changed 47 = .ok (.aload_n 0, 1) := by decide +kernel
set_option maxRecDepth 20000 in
theorem dX12_changed_48 : decode cX12_changed 48 = .ok (.getfield 41, 3) := by decide +kernel
set_option maxRecDepth 20000 in
theorem dX12_changed_51 : decode cX12_changed 51 = .ok (.iload 5, 2) := by decide +kernel
set_option maxRecDepth 20000 in
theorem dX12_changed_53 : decode cX12_changed 53 = .ok (.iaload, 1) := by decide +kernel
set_option maxRecDepth 20000 in
theorem dX12_changed_54 : decode cX12_changed 54 = .ok (.ifCond .eq 6, 3) := by decide +kernel
set_option maxRecDepth 20000 in
theorem dX12_changed_57 : decode cX12_changed 57 = .ok (.goto 35, 3) := by decide +kernel
set_option maxRecDepth 20000 in
theorem dX12_changed_60 : decode cX12_changed 60 = .ok (.aload_n 0, 1) := by decide +kernel
set_option maxRecDepth 20000 in
theorem dX12_changed_61 : decode cX12_changed 61 = .ok (.iload 4, 2) := by decide +kernel
set_option maxRecDepth 20000 in
theorem dX12_changed_63 : decode cX12_changed 63 = .ok (.iload 5, 2) := by decide +kernel
set_option maxRecDepth 20000 in
theorem dX12_changed_65 : decode cX12_changed 65 = .ok (.iload_n 1, 1) := by decide +kernel
set_option maxRecDepth 20000 in
theorem dX12_changed_66 : decode cX12_changed 66 = .ok (.invokevirtual 388, 3) := by decide +kernel
set_option maxRecDepth 20000 in
theorem dX12_changed_69 : decode cX12_changed 69 = .ok (.istore 6, 2) := by decide +kernel
set_option maxRecDepth 20000 in
theorem dX12_changed_71 : decode cX12_changed 71 = .ok (.iload 6, 2) := by decide +kernel
set_option maxRecDepth 20000 in
theorem dX12_changed_73 : decode cX12_changed 73 = .ok (.iload_n 3, 1) := by decide +kernel
set_option maxRecDepth 20000 in
theorem dX12_changed_74 : decode cX12_changed 74 = .ok (.if_icmp .lt 6, 3) := by decide +kernel
set_option maxRecDepth 20000 in
theorem dX12_changed_77 : decode cX12_changed 77 = .ok (.goto 15, 3) := by decide +kernel
set_option maxRecDepth 20000 in
theorem dX12_changed_80 : decode cX12_changed 80 = .ok (.bipush 10, 2) := by decide +kernel
set_option maxRecDepth 20000 in
theorem dX12_changed_82 : decode cX12_changed 82 = .ok (.iload 4, 2) := by decide +kernel
set_option maxRecDepth 20000 in
theorem dX12_changed_84 : decode cX12_changed 84 = .ok (.imul, 1) := by decide +kernel
set_option maxRecDepth 20000 in
theorem dX12_changed_85 : decode cX12_changed 85 = .ok (.iload 5, 2) := by decide +kernel
set_option maxRecDepth 20000 in
theorem dX12_changed_87 : decode cX12_changed 87 = .ok (.iadd, 1) := by decide +kernel
set_option maxRecDepth 20000 in
theorem dX12_changed_88 : decode cX12_changed 88 = .ok (.istore_n 2, 1) := by decide +kernel
set_option maxRecDepth 20000 in
theorem dX12_changed_89 : decode cX12_changed 89 = .ok (.iload 6, 2) := by decide +kernel
set_option maxRecDepth 20000 in
theorem dX12_changed_91 : decode cX12_changed 91 = .ok (.istore_n 3, 1) := by decide +kernel
set_option maxRecDepth 20000 in
theorem dX12_changed_92 : decode cX12_changed 92 = .ok (.iinc 5 1, 3) := by decide +kernel
set_option maxRecDepth 20000 in
theorem dX12_changed_95 : decode cX12_changed 95 = .ok (.goto (-67), 3) := by decide +kernel
set_option maxRecDepth 20000 in
theorem dX12_changed_98 : decode cX12_changed 98 = .ok (.iinc 4 1, 3) := by decide +kernel
set_option maxRecDepth 20000 in
theorem dX12_changed_101 : decode cX12_changed 101 = .ok (.goto (-88), 3) := by decide +kernel
set_option maxRecDepth 20000 in
theorem dX12_changed_104 : decode cX12_changed 104 = .ok (.iload_n 2, 1) := by decide +kernel
set_option maxRecDepth 20000 in
theorem dX12_changed_105 : decode cX12_changed 105 = .ok (.ireturn, 1) := by decide +kernel
set_option maxRecDepth 20000 in
theorem kt_X12_changed_0 (g : gx_T) : ∀ q ∈ k_X12_changed_0, gx_E g gc_md RX12 cX12_changed 7 (some .int) "changed" q.1 q.2 := List.forall_mem_cons.mpr ⟨(gs_bipush dX12_changed_0 rfl), List.forall_mem_cons.mpr ⟨
  (gs_istore_n dX12_changed_2 rfl), List.forall_mem_cons.mpr ⟨
  (gs_aload_n dX12_changed_3 rfl), List.forall_mem_cons.mpr ⟨
  (gs_iload_n dX12_changed_4 rfl), List.forall_mem_cons.mpr ⟨
  (gs_iconst dX12_changed_5 rfl), List.forall_mem_cons.mpr ⟨
  (gs_cv dX12_changed_6 (fun q hq => by
      simp only [List.mem_cons, List.not_mem_nil, or_false] at hq
      subst hq
      exact Or.inl ⟨_, rfl, by decide, by decide +kernel, by decide +kernel, List.forall_mem_cons.mpr ⟨gx_mem 1449 (by decide +kernel) (by decide +kernel), List.forall_mem_cons.mpr ⟨gx_mem 1421 (by decide +kernel) (by decide +kernel), List.forall_mem_cons.mpr ⟨gx_mem 1422 (by decide +kernel) (by decide +kernel), List.forall_mem_cons.mpr ⟨gx_mem 96 (by decide +kernel) (by decide +kernel), List.forall_mem_cons.mpr ⟨cw_1423, fun _ h => absurd h List.not_mem_nil⟩⟩⟩⟩⟩⟩)), List.forall_mem_cons.mpr ⟨
  (gs_istore_n dX12_changed_9 rfl), List.forall_mem_cons.mpr ⟨
  (gs_iconst dX12_changed_10 rfl), List.forall_mem_cons.mpr ⟨
  (gs_istore dX12_changed_11), List.forall_mem_cons.mpr ⟨
  (gs_iload dX12_changed_13), List.forall_mem_cons.mpr ⟨
  (gs_aload_n dX12_changed_15 rfl), List.forall_mem_cons.mpr ⟨
  (gs_gf (ref := "GriefCranesModel") dX12_changed_16 (gx_mem 998 (by decide +kernel) (by decide +kernel)) (Or.inl rfl) gf_12_1), List.forall_mem_cons.mpr ⟨
  (gs_icmp_ge dX12_changed_19 rfl), List.forall_mem_cons.mpr ⟨
  (gs_iload dX12_changed_22), List.forall_mem_cons.mpr ⟨
  (gs_iconst dX12_changed_24 rfl), List.forall_mem_cons.mpr ⟨
  (gs_iadd dX12_changed_25), List.forall_mem_cons.mpr ⟨
  (gs_istore dX12_changed_26), List.forall_mem_cons.mpr ⟨
  (gs_iload dX12_changed_28), List.forall_mem_cons.mpr ⟨
  (gs_aload_n dX12_changed_30 rfl), List.forall_mem_cons.mpr ⟨
  (gs_gf (ref := "GriefCranesModel") dX12_changed_31 (gx_mem 998 (by decide +kernel) (by decide +kernel)) (Or.inl rfl) gf_12_1), List.forall_mem_cons.mpr ⟨
  (gs_icmp_ge dX12_changed_34 rfl), List.forall_mem_cons.mpr ⟨
  (gs_aload_n dX12_changed_37 rfl), List.forall_mem_cons.mpr ⟨
  (gs_gf (ref := "GriefCranesModel") dX12_changed_38 (gx_mem 1007 (by decide +kernel) (by decide +kernel)) (Or.inl rfl) gf_12_10), List.forall_mem_cons.mpr ⟨
  (gs_iload dX12_changed_41), List.forall_mem_cons.mpr ⟨
  (gs_iaload dX12_changed_43), List.forall_mem_cons.mpr ⟨
  (gs_if_ne dX12_changed_44 rfl), List.forall_mem_cons.mpr ⟨
  (gs_aload_n dX12_changed_47 rfl), List.forall_mem_cons.mpr ⟨
  (gs_gf (ref := "GriefCranesModel") dX12_changed_48 (gx_mem 1007 (by decide +kernel) (by decide +kernel)) (Or.inl rfl) gf_12_10), List.forall_mem_cons.mpr ⟨
  (gs_iload dX12_changed_51), List.forall_mem_cons.mpr ⟨
  (gs_iaload dX12_changed_53), List.forall_mem_cons.mpr ⟨
  (gs_if_eq dX12_changed_54 rfl), List.forall_mem_cons.mpr ⟨
  (gs_goto dX12_changed_57 rfl), fun _ h => absurd h List.not_mem_nil⟩⟩⟩⟩⟩⟩⟩⟩⟩⟩⟩⟩⟩⟩⟩⟩⟩⟩⟩⟩⟩⟩⟩⟩⟩⟩⟩⟩⟩⟩⟩⟩
set_option maxRecDepth 20000 in
theorem kt_X12_changed_1 (g : gx_T) : ∀ q ∈ k_X12_changed_1, gx_E g gc_md RX12 cX12_changed 7 (some .int) "changed" q.1 q.2 := List.forall_mem_cons.mpr ⟨(gs_aload_n dX12_changed_60 rfl), List.forall_mem_cons.mpr ⟨
  (gs_iload dX12_changed_61), List.forall_mem_cons.mpr ⟨
  (gs_iload dX12_changed_63), List.forall_mem_cons.mpr ⟨
  (gs_iload_n dX12_changed_65 rfl), List.forall_mem_cons.mpr ⟨
  (gs_cv dX12_changed_66 (fun q hq => by
      simp only [List.mem_cons, List.not_mem_nil, or_false] at hq
      subst hq
      exact Or.inl ⟨_, rfl, by decide, by decide +kernel, by decide +kernel, List.forall_mem_cons.mpr ⟨gx_mem 1450 (by decide +kernel) (by decide +kernel), List.forall_mem_cons.mpr ⟨gx_mem 1452 (by decide +kernel) (by decide +kernel), List.forall_mem_cons.mpr ⟨gx_mem 62 (by decide +kernel) (by decide +kernel), List.forall_mem_cons.mpr ⟨gx_mem 96 (by decide +kernel) (by decide +kernel), List.forall_mem_cons.mpr ⟨cw_1453, fun _ h => absurd h List.not_mem_nil⟩⟩⟩⟩⟩⟩)), List.forall_mem_cons.mpr ⟨
  (gs_istore dX12_changed_69), List.forall_mem_cons.mpr ⟨
  (gs_iload dX12_changed_71), List.forall_mem_cons.mpr ⟨
  (gs_iload_n dX12_changed_73 rfl), List.forall_mem_cons.mpr ⟨
  (gs_icmp_lt dX12_changed_74 rfl), List.forall_mem_cons.mpr ⟨
  (gs_goto dX12_changed_77 rfl), List.forall_mem_cons.mpr ⟨
  (gs_bipush dX12_changed_80 rfl), List.forall_mem_cons.mpr ⟨
  (gs_iload dX12_changed_82), List.forall_mem_cons.mpr ⟨
  (gs_imul dX12_changed_84), List.forall_mem_cons.mpr ⟨
  (gs_iload dX12_changed_85), List.forall_mem_cons.mpr ⟨
  (gs_iadd dX12_changed_87), List.forall_mem_cons.mpr ⟨
  (gs_istore_n dX12_changed_88 rfl), List.forall_mem_cons.mpr ⟨
  (gs_iload dX12_changed_89), List.forall_mem_cons.mpr ⟨
  (gs_istore_n dX12_changed_91 rfl), List.forall_mem_cons.mpr ⟨
  (gs_iinc dX12_changed_92), List.forall_mem_cons.mpr ⟨
  (gs_goto dX12_changed_95 rfl), List.forall_mem_cons.mpr ⟨
  (gs_iinc dX12_changed_98), List.forall_mem_cons.mpr ⟨
  (gs_goto dX12_changed_101 rfl), List.forall_mem_cons.mpr ⟨
  (gs_iload_n dX12_changed_104 rfl), List.forall_mem_cons.mpr ⟨
  (gs_ri dX12_changed_105), fun _ h => absurd h List.not_mem_nil⟩⟩⟩⟩⟩⟩⟩⟩⟩⟩⟩⟩⟩⟩⟩⟩⟩⟩⟩⟩⟩⟩⟩⟩
theorem kt_X12_changed (g : gx_T) : ∀ q ∈ k_X12_changed, gx_E g gc_md RX12 cX12_changed 7 (some .int) "changed" q.1 q.2 := List.forall_mem_append.mpr ⟨kt_X12_changed_0 g, kt_X12_changed_1 g⟩
set_option maxRecDepth 20000 in
theorem dX12_laidBy_0 : decode cX12_laidBy 0 = .ok (.aload_n 0, 1) := by decide +kernel
set_option maxRecDepth 20000 in
theorem dX12_laidBy_1 : decode cX12_laidBy 1 = .ok (.invokevirtual 370, 3) := by decide +kernel
set_option maxRecDepth 20000 in
theorem dX12_laidBy_4 : decode cX12_laidBy 4 = .ok (.iconst 0, 1) := by decide +kernel
set_option maxRecDepth 20000 in
theorem dX12_laidBy_5 : decode cX12_laidBy 5 = .ok (.istore_n 3, 1) := by decide +kernel
set_option maxRecDepth 20000 in
theorem dX12_laidBy_6 : decode cX12_laidBy 6 = .ok (.iload_n 3, 1) := by decide +kernel
set_option maxRecDepth 20000 in
theorem dX12_laidBy_7 : decode cX12_laidBy 7 = .ok (.aload_n 0, 1) := by decide +kernel
set_option maxRecDepth 20000 in
theorem dX12_laidBy_8 : decode cX12_laidBy 8 = .ok (.getfield 13, 3) := by decide +kernel
set_option maxRecDepth 20000 in
theorem dX12_laidBy_11 : decode cX12_laidBy 11 = .ok (.if_icmp .ge 49, 3) := by decide +kernel
set_option maxRecDepth 20000 in
theorem dX12_laidBy_14 : decode cX12_laidBy 14 = .ok (.aload_n 0, 1) := by decide +kernel
set_option maxRecDepth 20000 in
theorem dX12_laidBy_15 : decode cX12_laidBy 15 = .ok (.getfield 41, 3) := by decide +kernel
set_option maxRecDepth 20000 in
theorem dX12_laidBy_18 : decode cX12_laidBy 18 = .ok (.iload_n 3, 1) := by decide +kernel
set_option maxRecDepth 20000 in
theorem dX12_laidBy_19 : decode cX12_laidBy 19 = .ok (.iaload, 1) := by decide +kernel
set_option maxRecDepth 20000 in
theorem dX12_laidBy_20 : decode cX12_laidBy 20 = .ok (.ifCond .ne 34, 3) := by decide +kernel
set_option maxRecDepth 20000 in
theorem dX12_laidBy_23 : decode cX12_laidBy 23 = .ok (.aload_n 0, 1) := by decide +kernel
set_option maxRecDepth 20000 in
theorem dX12_laidBy_24 : decode cX12_laidBy 24 = .ok (.getfield 38, 3) := by decide +kernel
set_option maxRecDepth 20000 in
theorem dX12_laidBy_27 : decode cX12_laidBy 27 = .ok (.iload_n 3, 1) := by decide +kernel
set_option maxRecDepth 20000 in
theorem dX12_laidBy_28 : decode cX12_laidBy 28 = .ok (.iaload, 1) := by decide +kernel
set_option maxRecDepth 20000 in
theorem dX12_laidBy_29 : decode cX12_laidBy 29 = .ok (.ifCond .lt 25, 3) := by decide +kernel
set_option maxRecDepth 20000 in
theorem dX12_laidBy_32 : decode cX12_laidBy 32 = .ok (.aload_n 0, 1) := by decide +kernel
set_option maxRecDepth 20000 in
theorem dX12_laidBy_33 : decode cX12_laidBy 33 = .ok (.iload_n 1, 1) := by decide +kernel
set_option maxRecDepth 20000 in
theorem dX12_laidBy_34 : decode cX12_laidBy 34 = .ok (.aload_n 0, 1) := by decide +kernel
set_option maxRecDepth 20000 in
theorem dX12_laidBy_35 : decode cX12_laidBy 35 = .ok (.getfield 38, 3) := by decide +kernel
set_option maxRecDepth 20000 in
theorem dX12_laidBy_38 : decode cX12_laidBy 38 = .ok (.iload_n 3, 1) := by decide +kernel
set_option maxRecDepth 20000 in
theorem dX12_laidBy_39 : decode cX12_laidBy 39 = .ok (.iaload, 1) := by decide +kernel
set_option maxRecDepth 20000 in
theorem dX12_laidBy_40 : decode cX12_laidBy 40 = .ok (.invokevirtual 251, 3) := by decide +kernel
set_option maxRecDepth 20000 in
theorem dX12_laidBy_43 : decode cX12_laidBy 43 = .ok (.ifCond .ne 11, 3) := by decide +kernel
set_option maxRecDepth 20000 in
theorem dX12_laidBy_46 : decode cX12_laidBy 46 = .ok (.aload_n 0, 1) := by decide +kernel
set_option maxRecDepth 20000 in
theorem dX12_laidBy_47 : decode cX12_laidBy 47 = .ok (.getfield 38, 3) := by decide +kernel
set_option maxRecDepth 20000 in
theorem dX12_laidBy_50 : decode cX12_laidBy 50 = .ok (.iload_n 3, 1) := by decide +kernel
set_option maxRecDepth 20000 in
theorem dX12_laidBy_51 : decode cX12_laidBy 51 = .ok (.bipush (-5), 2) := by decide +kernel
set_option maxRecDepth 20000 in
theorem dX12_laidBy_53 : decode cX12_laidBy 53 = .ok (.iastore, 1) := by decide +kernel
set_option maxRecDepth 20000 in
theorem dX12_laidBy_54 : decode cX12_laidBy 54 = .ok (.iinc 3 1, 3) := by decide +kernel
set_option maxRecDepth 20000 in
theorem dX12_laidBy_57 : decode cX12_laidBy 57 = .ok (.goto (-51), 3) := by decide +kernel
set_option maxRecDepth 20000 in
theorem dX12_laidBy_60 : decode cX12_laidBy 60 = .ok (.aload_n 0, 1) := by decide +kernel
set_option maxRecDepth 20000 in
theorem dX12_laidBy_61 : decode cX12_laidBy 61 = .ok (.iload_n 2, 1) := by decide +kernel
set_option maxRecDepth 20000 in
theorem dX12_laidBy_62 : decode cX12_laidBy 62 = .ok (.invokevirtual 366, 3) := by decide +kernel
set_option maxRecDepth 20000 in
theorem dX12_laidBy_65 : decode cX12_laidBy 65 = .ok (.aload_n 0, 1) := by decide +kernel
set_option maxRecDepth 20000 in
theorem dX12_laidBy_66 : decode cX12_laidBy 66 = .ok (.aload_n 0, 1) := by decide +kernel
set_option maxRecDepth 20000 in
theorem dX12_laidBy_67 : decode cX12_laidBy 67 = .ok (.iconst 2, 1) := by decide +kernel
set_option maxRecDepth 20000 in
theorem dX12_laidBy_68 : decode cX12_laidBy 68 = .ok (.invokevirtual 379, 3) := by decide +kernel
set_option maxRecDepth 20000 in
theorem dX12_laidBy_71 : decode cX12_laidBy 71 = .ok (.invokevirtual 382, 3) := by decide +kernel
set_option maxRecDepth 20000 in
theorem dX12_laidBy_74 : decode cX12_laidBy 74 = .ok (.istore_n 3, 1) := by decide +kernel
set_option maxRecDepth 20000 in
theorem dX12_laidBy_75 : decode cX12_laidBy 75 = .ok (.aload_n 0, 1) := by decide +kernel
set_option maxRecDepth 20000 in
theorem dX12_laidBy_76 : decode cX12_laidBy 76 = .ok (.invokevirtual 373, 3) := by decide +kernel
set_option maxRecDepth 20000 in
theorem dX12_laidBy_79 : decode cX12_laidBy 79 = .ok (.iload_n 3, 1) := by decide +kernel
set_option maxRecDepth 20000 in
theorem dX12_laidBy_80 : decode cX12_laidBy 80 = .ok (.ireturn, 1) := by decide +kernel
set_option maxRecDepth 20000 in
theorem kt_X12_laidBy_0 (g : gx_T) : ∀ q ∈ k_X12_laidBy_0, gx_E g gc_md RX12 cX12_laidBy 4 (some .int) "laidBy" q.1 q.2 := List.forall_mem_cons.mpr ⟨(gs_aload_n dX12_laidBy_0 rfl), List.forall_mem_cons.mpr ⟨
  (gs_cv dX12_laidBy_1 (fun q hq => by
      simp only [List.mem_cons, List.not_mem_nil, or_false] at hq
      subst hq
      exact Or.inl ⟨_, rfl, by decide, by decide +kernel, by decide +kernel, List.forall_mem_cons.mpr ⟨gx_mem 1424 (by decide +kernel) (by decide +kernel), List.forall_mem_cons.mpr ⟨gx_mem 1426 (by decide +kernel) (by decide +kernel), List.forall_mem_cons.mpr ⟨gx_mem 57 (by decide +kernel) (by decide +kernel), List.forall_mem_cons.mpr ⟨gx_mem 96 (by decide +kernel) (by decide +kernel), List.forall_mem_cons.mpr ⟨cw_1427, fun _ h => absurd h List.not_mem_nil⟩⟩⟩⟩⟩⟩)), List.forall_mem_cons.mpr ⟨
  (gs_iconst dX12_laidBy_4 rfl), List.forall_mem_cons.mpr ⟨
  (gs_istore_n dX12_laidBy_5 rfl), List.forall_mem_cons.mpr ⟨
  (gs_iload_n dX12_laidBy_6 rfl), List.forall_mem_cons.mpr ⟨
  (gs_aload_n dX12_laidBy_7 rfl), List.forall_mem_cons.mpr ⟨
  (gs_gf (ref := "GriefCranesModel") dX12_laidBy_8 (gx_mem 998 (by decide +kernel) (by decide +kernel)) (Or.inl rfl) gf_12_1), List.forall_mem_cons.mpr ⟨
  (gs_icmp_ge dX12_laidBy_11 rfl), List.forall_mem_cons.mpr ⟨
  (gs_aload_n dX12_laidBy_14 rfl), List.forall_mem_cons.mpr ⟨
  (gs_gf (ref := "GriefCranesModel") dX12_laidBy_15 (gx_mem 1007 (by decide +kernel) (by decide +kernel)) (Or.inl rfl) gf_12_10), List.forall_mem_cons.mpr ⟨
  (gs_iload_n dX12_laidBy_18 rfl), List.forall_mem_cons.mpr ⟨
  (gs_iaload dX12_laidBy_19), List.forall_mem_cons.mpr ⟨
  (gs_if_ne dX12_laidBy_20 rfl), List.forall_mem_cons.mpr ⟨
  (gs_aload_n dX12_laidBy_23 rfl), List.forall_mem_cons.mpr ⟨
  (gs_gf (ref := "GriefCranesModel") dX12_laidBy_24 (gx_mem 1006 (by decide +kernel) (by decide +kernel)) (Or.inl rfl) gf_12_9), List.forall_mem_cons.mpr ⟨
  (gs_iload_n dX12_laidBy_27 rfl), List.forall_mem_cons.mpr ⟨
  (gs_iaload dX12_laidBy_28), List.forall_mem_cons.mpr ⟨
  (gs_if_lt dX12_laidBy_29 rfl), List.forall_mem_cons.mpr ⟨
  (gs_aload_n dX12_laidBy_32 rfl), List.forall_mem_cons.mpr ⟨
  (gs_iload_n dX12_laidBy_33 rfl), List.forall_mem_cons.mpr ⟨
  (gs_aload_n dX12_laidBy_34 rfl), List.forall_mem_cons.mpr ⟨
  (gs_gf (ref := "GriefCranesModel") dX12_laidBy_35 (gx_mem 1006 (by decide +kernel) (by decide +kernel)) (Or.inl rfl) gf_12_9), List.forall_mem_cons.mpr ⟨
  (gs_iload_n dX12_laidBy_38 rfl), List.forall_mem_cons.mpr ⟨
  (gs_iaload dX12_laidBy_39), List.forall_mem_cons.mpr ⟨
  (gs_cv dX12_laidBy_40 (fun q hq => by
      simp only [List.mem_cons, List.not_mem_nil, or_false] at hq
      subst hq
      exact Or.inl ⟨_, rfl, by decide, by decide +kernel, by decide +kernel, List.forall_mem_cons.mpr ⟨gx_mem 1433 (by decide +kernel) (by decide +kernel), List.forall_mem_cons.mpr ⟨gx_mem 1435 (by decide +kernel) (by decide +kernel), List.forall_mem_cons.mpr ⟨gx_mem 59 (by decide +kernel) (by decide +kernel), List.forall_mem_cons.mpr ⟨gx_mem 96 (by decide +kernel) (by decide +kernel), List.forall_mem_cons.mpr ⟨cw_1436, fun _ h => absurd h List.not_mem_nil⟩⟩⟩⟩⟩⟩)), List.forall_mem_cons.mpr ⟨
  (gs_if_ne dX12_laidBy_43 rfl), List.forall_mem_cons.mpr ⟨
  (gs_aload_n dX12_laidBy_46 rfl), List.forall_mem_cons.mpr ⟨
  (gs_gf (ref := "GriefCranesModel") dX12_laidBy_47 (gx_mem 1006 (by decide +kernel) (by decide +kernel)) (Or.inl rfl) gf_12_9), List.forall_mem_cons.mpr ⟨
  (gs_iload_n dX12_laidBy_50 rfl), List.forall_mem_cons.mpr ⟨
  (gs_bipush dX12_laidBy_51 rfl), List.forall_mem_cons.mpr ⟨
  (gs_iastore dX12_laidBy_53), List.forall_mem_cons.mpr ⟨
  (gs_iinc dX12_laidBy_54), fun _ h => absurd h List.not_mem_nil⟩⟩⟩⟩⟩⟩⟩⟩⟩⟩⟩⟩⟩⟩⟩⟩⟩⟩⟩⟩⟩⟩⟩⟩⟩⟩⟩⟩⟩⟩⟩⟩
set_option maxRecDepth 20000 in
theorem kt_X12_laidBy_1 (g : gx_T) : ∀ q ∈ k_X12_laidBy_1, gx_E g gc_md RX12 cX12_laidBy 4 (some .int) "laidBy" q.1 q.2 := List.forall_mem_cons.mpr ⟨(gs_goto dX12_laidBy_57 rfl), List.forall_mem_cons.mpr ⟨
  (gs_aload_n dX12_laidBy_60 rfl), List.forall_mem_cons.mpr ⟨
  (gs_iload_n dX12_laidBy_61 rfl), List.forall_mem_cons.mpr ⟨
  (gs_cv dX12_laidBy_62 (fun q hq => by
      simp only [List.mem_cons, List.not_mem_nil, or_false] at hq
      subst hq
      exact Or.inl ⟨_, rfl, by decide, by decide +kernel, by decide +kernel, List.forall_mem_cons.mpr ⟨gx_mem 1384 (by decide +kernel) (by decide +kernel), List.forall_mem_cons.mpr ⟨gx_mem 1386 (by decide +kernel) (by decide +kernel), List.forall_mem_cons.mpr ⟨gx_mem 49 (by decide +kernel) (by decide +kernel), List.forall_mem_cons.mpr ⟨gx_mem 96 (by decide +kernel) (by decide +kernel), List.forall_mem_cons.mpr ⟨cw_1387, fun _ h => absurd h List.not_mem_nil⟩⟩⟩⟩⟩⟩)), List.forall_mem_cons.mpr ⟨
  (gs_aload_n dX12_laidBy_65 rfl), List.forall_mem_cons.mpr ⟨
  (gs_aload_n dX12_laidBy_66 rfl), List.forall_mem_cons.mpr ⟨
  (gs_iconst dX12_laidBy_67 rfl), List.forall_mem_cons.mpr ⟨
  (gs_cv dX12_laidBy_68 (fun q hq => by
      simp only [List.mem_cons, List.not_mem_nil, or_false] at hq
      subst hq
      exact Or.inl ⟨_, rfl, by decide, by decide +kernel, by decide +kernel, List.forall_mem_cons.mpr ⟨gx_mem 1416 (by decide +kernel) (by decide +kernel), List.forall_mem_cons.mpr ⟨gx_mem 1418 (by decide +kernel) (by decide +kernel), List.forall_mem_cons.mpr ⟨gx_mem 56 (by decide +kernel) (by decide +kernel), List.forall_mem_cons.mpr ⟨gx_mem 96 (by decide +kernel) (by decide +kernel), List.forall_mem_cons.mpr ⟨cw_1419, fun _ h => absurd h List.not_mem_nil⟩⟩⟩⟩⟩⟩)), List.forall_mem_cons.mpr ⟨
  (gs_cv dX12_laidBy_71 (fun q hq => by
      simp only [List.mem_cons, List.not_mem_nil, or_false] at hq
      subst hq
      exact Or.inl ⟨_, rfl, by decide, by decide +kernel, by decide +kernel, List.forall_mem_cons.mpr ⟨gx_mem 1429 (by decide +kernel) (by decide +kernel), List.forall_mem_cons.mpr ⟨gx_mem 1431 (by decide +kernel) (by decide +kernel), List.forall_mem_cons.mpr ⟨gx_mem 58 (by decide +kernel) (by decide +kernel), List.forall_mem_cons.mpr ⟨gx_mem 96 (by decide +kernel) (by decide +kernel), List.forall_mem_cons.mpr ⟨cw_1432, fun _ h => absurd h List.not_mem_nil⟩⟩⟩⟩⟩⟩)), List.forall_mem_cons.mpr ⟨
  (gs_istore_n dX12_laidBy_74 rfl), List.forall_mem_cons.mpr ⟨
  (gs_aload_n dX12_laidBy_75 rfl), List.forall_mem_cons.mpr ⟨
  (gs_cv dX12_laidBy_76 (fun q hq => by
      simp only [List.mem_cons, List.not_mem_nil, or_false] at hq
      subst hq
      exact Or.inl ⟨_, rfl, by decide, by decide +kernel, by decide +kernel, List.forall_mem_cons.mpr ⟨gx_mem 1437 (by decide +kernel) (by decide +kernel), List.forall_mem_cons.mpr ⟨gx_mem 1439 (by decide +kernel) (by decide +kernel), List.forall_mem_cons.mpr ⟨gx_mem 60 (by decide +kernel) (by decide +kernel), List.forall_mem_cons.mpr ⟨gx_mem 96 (by decide +kernel) (by decide +kernel), List.forall_mem_cons.mpr ⟨cw_1440, fun _ h => absurd h List.not_mem_nil⟩⟩⟩⟩⟩⟩)), List.forall_mem_cons.mpr ⟨
  (gs_iload_n dX12_laidBy_79 rfl), List.forall_mem_cons.mpr ⟨
  (gs_ri dX12_laidBy_80), fun _ h => absurd h List.not_mem_nil⟩⟩⟩⟩⟩⟩⟩⟩⟩⟩⟩⟩⟩⟩
theorem kt_X12_laidBy (g : gx_T) : ∀ q ∈ k_X12_laidBy, gx_E g gc_md RX12 cX12_laidBy 4 (some .int) "laidBy" q.1 q.2 := List.forall_mem_append.mpr ⟨kt_X12_laidBy_0 g, kt_X12_laidBy_1 g⟩
set_option maxRecDepth 20000 in
theorem dX12_crew_0 : decode cX12_crew 0 = .ok (.aload_n 0, 1) := by decide +kernel
set_option maxRecDepth 20000 in
theorem dX12_crew_1 : decode cX12_crew 1 = .ok (.iload_n 1, 1) := by decide +kernel
set_option maxRecDepth 20000 in
theorem dX12_crew_2 : decode cX12_crew 2 = .ok (.iconst 0, 1) := by decide +kernel
set_option maxRecDepth 20000 in
theorem dX12_crew_3 : decode cX12_crew 3 = .ok (.invokevirtual 385, 3) := by decide +kernel
set_option maxRecDepth 20000 in
theorem dX12_crew_6 : decode cX12_crew 6 = .ok (.istore_n 2, 1) := by decide +kernel
set_option maxRecDepth 20000 in
theorem dX12_crew_7 : decode cX12_crew 7 = .ok (.bipush (-5), 2) := by decide +kernel
set_option maxRecDepth 20000 in
theorem dX12_crew_9 : decode cX12_crew 9 = .ok (.istore_n 3, 1) := by decide +kernel
set_option maxRecDepth 20000 in
theorem dX12_crew_10 : decode cX12_crew 10 = .ok (.iconst 0, 1) := by decide +kernel
set_option maxRecDepth 20000 in
theorem dX12_crew_11 : decode cX12_crew 11 = .ok (.istore 4, 2) := by decide +kernel
set_option maxRecDepth 20000 in
theorem dX12_crew_13 : decode cX12_crew 13 = .ok (.iload 4, 2) := by decide +kernel
set_option maxRecDepth 20000 in
theorem dX12_crew_15 : decode cX12_crew 15 = .ok (.iconst 1, 1) := by decide +kernel
set_option maxRecDepth 20000 in
theorem dX12_crew_16 : decode cX12_crew 16 = .ok (.aload_n 0, 1) := by decide +kernel
set_option maxRecDepth 20000 in
theorem dX12_crew_17 : decode cX12_crew 17 = .ok (.getfield 7, 3) := by decide +kernel
set_option maxRecDepth 20000 in
theorem dX12_crew_20 : decode cX12_crew 20 = .ok (.ishl, 1) := by decide +kernel
set_option maxRecDepth 20000 in
theorem dX12_crew_21 : decode cX12_crew 21 = .ok (.if_icmp .ge 48, 3) := by decide +kernel
set_option maxRecDepth 20000 in
theorem dX12_crew_24 : decode cX12_crew 24 = .ok (.iload_n 3, 1) := by decide +kernel
set_option maxRecDepth 20000 in
theorem dX12_crew_25 : decode cX12_crew 25 = .ok (.ifCond .lt 20, 3) := by decide +kernel
set_option maxRecDepth 20000 in
theorem dX12_crew_28 : decode cX12_crew 28 = .ok (.aload_n 0, 1) := by decide +kernel
set_option maxRecDepth 20000 in
theorem dX12_crew_29 : decode cX12_crew 29 = .ok (.iload 4, 2) := by decide +kernel
set_option maxRecDepth 20000 in
theorem dX12_crew_31 : decode cX12_crew 31 = .ok (.invokevirtual 382, 3) := by decide +kernel
set_option maxRecDepth 20000 in
theorem dX12_crew_34 : decode cX12_crew 34 = .ok (.aload_n 0, 1) := by decide +kernel
set_option maxRecDepth 20000 in
theorem dX12_crew_35 : decode cX12_crew 35 = .ok (.iload_n 3, 1) := by decide +kernel
set_option maxRecDepth 20000 in
theorem dX12_crew_36 : decode cX12_crew 36 = .ok (.invokevirtual 382, 3) := by decide +kernel
set_option maxRecDepth 20000 in
theorem dX12_crew_39 : decode cX12_crew 39 = .ok (.if_icmp .lt 6, 3) := by decide +kernel
set_option maxRecDepth 20000 in
theorem dX12_crew_42 : decode cX12_crew 42 = .ok (.goto 21, 3) := by decide +kernel
set_option maxRecDepth 20000 in
theorem dX12_crew_45 : decode cX12_crew 45 = .ok (.aload_n 0, 1) := by decide +kernel
set_option maxRecDepth 20000 in
theorem dX12_crew_46 : decode cX12_crew 46 = .ok (.iload 4, 2) := by decide +kernel
set_option maxRecDepth 20000 in
theorem dX12_crew_48 : decode cX12_crew 48 = .ok (.iload_n 1, 1) := by decide +kernel
set_option maxRecDepth 20000 in
theorem dX12_crew_49 : decode cX12_crew 49 = .ok (.invokevirtual 391, 3) := by decide +kernel
set_option maxRecDepth 20000 in
theorem dX12_crew_52 : decode cX12_crew 52 = .ok (.iload_n 2, 1) := by decide +kernel
set_option maxRecDepth 20000 in
theorem dX12_crew_53 : decode cX12_crew 53 = .ok (.if_icmp .lt 8, 3) := by decide +kernel
set_option maxRecDepth 20000 in
theorem dX12_crew_56 : decode cX12_crew 56 = .ok (.iload 4, 2) := by decide +kernel
set_option maxRecDepth 20000 in
theorem dX12_crew_58 : decode cX12_crew 58 = .ok (.goto 4, 3) := by decide +kernel
set_option maxRecDepth 20000 in
theorem dX12_crew_61 : decode cX12_crew 61 = .ok (.iload_n 3, 1) := by decide +kernel
set_option maxRecDepth 20000 in
theorem dX12_crew_62 : decode cX12_crew 62 = .ok (.istore_n 3, 1) := by decide +kernel
set_option maxRecDepth 20000 in
theorem dX12_crew_63 : decode cX12_crew 63 = .ok (.iinc 4 1, 3) := by decide +kernel
set_option maxRecDepth 20000 in
theorem dX12_crew_66 : decode cX12_crew 66 = .ok (.goto (-53), 3) := by decide +kernel
set_option maxRecDepth 20000 in
theorem dX12_crew_69 : decode cX12_crew 69 = .ok (.iload_n 3, 1) := by decide +kernel
set_option maxRecDepth 20000 in
theorem dX12_crew_70 : decode cX12_crew 70 = .ok (.ireturn, 1) := by decide +kernel
set_option maxRecDepth 20000 in
theorem kt_X12_crew_0 (g : gx_T) : ∀ q ∈ k_X12_crew_0, gx_E g gc_md RX12 cX12_crew 5 (some .int) "crew" q.1 q.2 := List.forall_mem_cons.mpr ⟨(gs_aload_n dX12_crew_0 rfl), List.forall_mem_cons.mpr ⟨
  (gs_iload_n dX12_crew_1 rfl), List.forall_mem_cons.mpr ⟨
  (gs_iconst dX12_crew_2 rfl), List.forall_mem_cons.mpr ⟨
  (gs_cv dX12_crew_3 (fun q hq => by
      simp only [List.mem_cons, List.not_mem_nil, or_false] at hq
      subst hq
      exact Or.inl ⟨_, rfl, by decide, by decide +kernel, by decide +kernel, List.forall_mem_cons.mpr ⟨gx_mem 1449 (by decide +kernel) (by decide +kernel), List.forall_mem_cons.mpr ⟨gx_mem 1421 (by decide +kernel) (by decide +kernel), List.forall_mem_cons.mpr ⟨gx_mem 1422 (by decide +kernel) (by decide +kernel), List.forall_mem_cons.mpr ⟨gx_mem 96 (by decide +kernel) (by decide +kernel), List.forall_mem_cons.mpr ⟨cw_1423, fun _ h => absurd h List.not_mem_nil⟩⟩⟩⟩⟩⟩)), List.forall_mem_cons.mpr ⟨
  (gs_istore_n dX12_crew_6 rfl), List.forall_mem_cons.mpr ⟨
  (gs_bipush dX12_crew_7 rfl), List.forall_mem_cons.mpr ⟨
  (gs_istore_n dX12_crew_9 rfl), List.forall_mem_cons.mpr ⟨
  (gs_iconst dX12_crew_10 rfl), List.forall_mem_cons.mpr ⟨
  (gs_istore dX12_crew_11), List.forall_mem_cons.mpr ⟨
  (gs_iload dX12_crew_13), List.forall_mem_cons.mpr ⟨
  (gs_iconst dX12_crew_15 rfl), List.forall_mem_cons.mpr ⟨
  (gs_aload_n dX12_crew_16 rfl), List.forall_mem_cons.mpr ⟨
  (gs_gf (ref := "GriefCranesModel") dX12_crew_17 (gx_mem 997 (by decide +kernel) (by decide +kernel)) (Or.inl rfl) gf_12_0), List.forall_mem_cons.mpr ⟨
  (gs_ishl dX12_crew_20), List.forall_mem_cons.mpr ⟨
  (gs_icmp_ge dX12_crew_21 rfl), List.forall_mem_cons.mpr ⟨
  (gs_iload_n dX12_crew_24 rfl), List.forall_mem_cons.mpr ⟨
  (gs_if_lt dX12_crew_25 rfl), List.forall_mem_cons.mpr ⟨
  (gs_aload_n dX12_crew_28 rfl), List.forall_mem_cons.mpr ⟨
  (gs_iload dX12_crew_29), List.forall_mem_cons.mpr ⟨
  (gs_cv dX12_crew_31 (fun q hq => by
      simp only [List.mem_cons, List.not_mem_nil, or_false] at hq
      subst hq
      exact Or.inl ⟨_, rfl, by decide, by decide +kernel, by decide +kernel, List.forall_mem_cons.mpr ⟨gx_mem 1429 (by decide +kernel) (by decide +kernel), List.forall_mem_cons.mpr ⟨gx_mem 1431 (by decide +kernel) (by decide +kernel), List.forall_mem_cons.mpr ⟨gx_mem 58 (by decide +kernel) (by decide +kernel), List.forall_mem_cons.mpr ⟨gx_mem 96 (by decide +kernel) (by decide +kernel), List.forall_mem_cons.mpr ⟨cw_1432, fun _ h => absurd h List.not_mem_nil⟩⟩⟩⟩⟩⟩)), List.forall_mem_cons.mpr ⟨
  (gs_aload_n dX12_crew_34 rfl), List.forall_mem_cons.mpr ⟨
  (gs_iload_n dX12_crew_35 rfl), List.forall_mem_cons.mpr ⟨
  (gs_cv dX12_crew_36 (fun q hq => by
      simp only [List.mem_cons, List.not_mem_nil, or_false] at hq
      subst hq
      exact Or.inl ⟨_, rfl, by decide, by decide +kernel, by decide +kernel, List.forall_mem_cons.mpr ⟨gx_mem 1429 (by decide +kernel) (by decide +kernel), List.forall_mem_cons.mpr ⟨gx_mem 1431 (by decide +kernel) (by decide +kernel), List.forall_mem_cons.mpr ⟨gx_mem 58 (by decide +kernel) (by decide +kernel), List.forall_mem_cons.mpr ⟨gx_mem 96 (by decide +kernel) (by decide +kernel), List.forall_mem_cons.mpr ⟨cw_1432, fun _ h => absurd h List.not_mem_nil⟩⟩⟩⟩⟩⟩)), List.forall_mem_cons.mpr ⟨
  (gs_icmp_lt dX12_crew_39 rfl), List.forall_mem_cons.mpr ⟨
  (gs_goto dX12_crew_42 rfl), List.forall_mem_cons.mpr ⟨
  (gs_aload_n dX12_crew_45 rfl), List.forall_mem_cons.mpr ⟨
  (gs_iload dX12_crew_46), List.forall_mem_cons.mpr ⟨
  (gs_iload_n dX12_crew_48 rfl), List.forall_mem_cons.mpr ⟨
  (gs_cv dX12_crew_49 (fun q hq => by
      simp only [List.mem_cons, List.not_mem_nil, or_false] at hq
      subst hq
      exact Or.inl ⟨_, rfl, by decide, by decide +kernel, by decide +kernel, List.forall_mem_cons.mpr ⟨gx_mem 1458 (by decide +kernel) (by decide +kernel), List.forall_mem_cons.mpr ⟨gx_mem 1460 (by decide +kernel) (by decide +kernel), List.forall_mem_cons.mpr ⟨gx_mem 64 (by decide +kernel) (by decide +kernel), List.forall_mem_cons.mpr ⟨gx_mem 96 (by decide +kernel) (by decide +kernel), List.forall_mem_cons.mpr ⟨cw_1461, fun _ h => absurd h List.not_mem_nil⟩⟩⟩⟩⟩⟩)), List.forall_mem_cons.mpr ⟨
  (gs_iload_n dX12_crew_52 rfl), List.forall_mem_cons.mpr ⟨
  (gs_icmp_lt dX12_crew_53 rfl), List.forall_mem_cons.mpr ⟨
  (gs_iload dX12_crew_56), fun _ h => absurd h List.not_mem_nil⟩⟩⟩⟩⟩⟩⟩⟩⟩⟩⟩⟩⟩⟩⟩⟩⟩⟩⟩⟩⟩⟩⟩⟩⟩⟩⟩⟩⟩⟩⟩⟩
set_option maxRecDepth 20000 in
theorem kt_X12_crew_1 (g : gx_T) : ∀ q ∈ k_X12_crew_1, gx_E g gc_md RX12 cX12_crew 5 (some .int) "crew" q.1 q.2 := List.forall_mem_cons.mpr ⟨(gs_goto dX12_crew_58 rfl), List.forall_mem_cons.mpr ⟨
  (gs_iload_n dX12_crew_61 rfl), List.forall_mem_cons.mpr ⟨
  (gs_istore_n dX12_crew_62 rfl), List.forall_mem_cons.mpr ⟨
  (gs_iinc dX12_crew_63), List.forall_mem_cons.mpr ⟨
  (gs_goto dX12_crew_66 rfl), List.forall_mem_cons.mpr ⟨
  (gs_iload_n dX12_crew_69 rfl), List.forall_mem_cons.mpr ⟨
  (gs_ri dX12_crew_70), fun _ h => absurd h List.not_mem_nil⟩⟩⟩⟩⟩⟩⟩
theorem kt_X12_crew (g : gx_T) : ∀ q ∈ k_X12_crew, gx_E g gc_md RX12 cX12_crew 5 (some .int) "crew" q.1 q.2 := List.forall_mem_append.mpr ⟨kt_X12_crew_0 g, kt_X12_crew_1 g⟩
set_option maxRecDepth 20000 in
theorem dX12_best_0 : decode cX12_best 0 = .ok (.aload_n 0, 1) := by decide +kernel
set_option maxRecDepth 20000 in
theorem dX12_best_1 : decode cX12_best 1 = .ok (.iload_n 2, 1) := by decide +kernel
set_option maxRecDepth 20000 in
theorem dX12_best_2 : decode cX12_best 2 = .ok (.iconst 0, 1) := by decide +kernel
set_option maxRecDepth 20000 in
theorem dX12_best_3 : decode cX12_best 3 = .ok (.iconst 1, 1) := by decide +kernel
set_option maxRecDepth 20000 in
theorem dX12_best_4 : decode cX12_best 4 = .ok (.invokevirtual 255, 3) := by decide +kernel
set_option maxRecDepth 20000 in
theorem dX12_best_7 : decode cX12_best 7 = .ok (.ifCond .ne 5, 3) := by decide +kernel
set_option maxRecDepth 20000 in
theorem dX12_best_10 : decode cX12_best 10 = .ok (.iconst (-1), 1) := by decide +kernel
set_option maxRecDepth 20000 in
theorem dX12_best_11 : decode cX12_best 11 = .ok (.ireturn, 1) := by decide +kernel
set_option maxRecDepth 20000 in
theorem dX12_best_12 : decode cX12_best 12 = .ok (.aload_n 0, 1) := by decide +kernel
set_option maxRecDepth 20000 in
theorem dX12_best_13 : decode cX12_best 13 = .ok (.iload_n 1, 1) := by decide +kernel
set_option maxRecDepth 20000 in
theorem dX12_best_14 : decode cX12_best 14 = .ok (.iconst 1, 1) := by decide +kernel
set_option maxRecDepth 20000 in
theorem dX12_best_15 : decode cX12_best 15 = .ok (.iload_n 2, 1) := by decide +kernel
set_option maxRecDepth 20000 in
theorem dX12_best_16 : decode cX12_best 16 = .ok (.ifCond .ne 8, 3) := by decide +kernel
set_option maxRecDepth 20000 in
theorem dX12_best_19 : decode cX12_best 19 = .ok (.bipush 20, 2) := by decide +kernel
set_option maxRecDepth 20000 in
theorem dX12_best_21 : decode cX12_best 21 = .ok (.goto 5, 3) := by decide +kernel
set_option maxRecDepth 20000 in
theorem dX12_best_24 : decode cX12_best 24 = .ok (.bipush 12, 2) := by decide +kernel
set_option maxRecDepth 20000 in
theorem dX12_best_26 : decode cX12_best 26 = .ok (.invokevirtual 255, 3) := by decide +kernel
set_option maxRecDepth 20000 in
theorem dX12_best_29 : decode cX12_best 29 = .ok (.ifCond .ne 6, 3) := by decide +kernel
set_option maxRecDepth 20000 in
theorem dX12_best_32 : decode cX12_best 32 = .ok (.bipush (-2), 2) := by decide +kernel
set_option maxRecDepth 20000 in
theorem dX12_best_34 : decode cX12_best 34 = .ok (.ireturn, 1) := by decide +kernel
set_option maxRecDepth 20000 in
theorem dX12_best_35 : decode cX12_best 35 = .ok (.iload_n 2, 1) := by decide +kernel
set_option maxRecDepth 20000 in
theorem dX12_best_36 : decode cX12_best 36 = .ok (.ifCond .ne 11, 3) := by decide +kernel
set_option maxRecDepth 20000 in
theorem dX12_best_39 : decode cX12_best 39 = .ok (.aload_n 0, 1) := by decide +kernel
set_option maxRecDepth 20000 in
theorem dX12_best_40 : decode cX12_best 40 = .ok (.iload_n 1, 1) := by decide +kernel
set_option maxRecDepth 20000 in
theorem dX12_best_41 : decode cX12_best 41 = .ok (.invokevirtual 394, 3) := by decide +kernel
set_option maxRecDepth 20000 in
theorem dX12_best_44 : decode cX12_best 44 = .ok (.goto 8, 3) := by decide +kernel
set_option maxRecDepth 20000 in
theorem dX12_best_47 : decode cX12_best 47 = .ok (.aload_n 0, 1) := by decide +kernel
set_option maxRecDepth 20000 in
theorem dX12_best_48 : decode cX12_best 48 = .ok (.iload_n 1, 1) := by decide +kernel
set_option maxRecDepth 20000 in
theorem dX12_best_49 : decode cX12_best 49 = .ok (.invokevirtual 397, 3) := by decide +kernel
set_option maxRecDepth 20000 in
theorem dX12_best_52 : decode cX12_best 52 = .ok (.ireturn, 1) := by decide +kernel
set_option maxRecDepth 20000 in
theorem kt_X12_best_0 (g : gx_T) : ∀ q ∈ k_X12_best_0, gx_E g gc_md RX12 cX12_best 3 (some .int) "best" q.1 q.2 := List.forall_mem_cons.mpr ⟨(gs_aload_n dX12_best_0 rfl), List.forall_mem_cons.mpr ⟨
  (gs_iload_n dX12_best_1 rfl), List.forall_mem_cons.mpr ⟨
  (gs_iconst dX12_best_2 rfl), List.forall_mem_cons.mpr ⟨
  (gs_iconst dX12_best_3 rfl), List.forall_mem_cons.mpr ⟨
  (gs_cv dX12_best_4 (fun q hq => by
      simp only [List.mem_cons, List.not_mem_nil, or_false] at hq
      subst hq
      exact Or.inl ⟨_, rfl, by decide, by decide +kernel, by decide +kernel, List.forall_mem_cons.mpr ⟨gx_mem 1240 (by decide +kernel) (by decide +kernel), List.forall_mem_cons.mpr ⟨gx_mem 1242 (by decide +kernel) (by decide +kernel), List.forall_mem_cons.mpr ⟨gx_mem 21 (by decide +kernel) (by decide +kernel), List.forall_mem_cons.mpr ⟨gx_mem 96 (by decide +kernel) (by decide +kernel), List.forall_mem_cons.mpr ⟨cw_1243, fun _ h => absurd h List.not_mem_nil⟩⟩⟩⟩⟩⟩)), List.forall_mem_cons.mpr ⟨
  (gs_if_ne dX12_best_7 rfl), List.forall_mem_cons.mpr ⟨
  (gs_iconst dX12_best_10 rfl), List.forall_mem_cons.mpr ⟨
  (gs_ri dX12_best_11), List.forall_mem_cons.mpr ⟨
  (gs_aload_n dX12_best_12 rfl), List.forall_mem_cons.mpr ⟨
  (gs_iload_n dX12_best_13 rfl), List.forall_mem_cons.mpr ⟨
  (gs_iconst dX12_best_14 rfl), List.forall_mem_cons.mpr ⟨
  (gs_iload_n dX12_best_15 rfl), List.forall_mem_cons.mpr ⟨
  (gs_if_ne dX12_best_16 rfl), List.forall_mem_cons.mpr ⟨
  (gs_bipush dX12_best_19 rfl), List.forall_mem_cons.mpr ⟨
  (gs_goto dX12_best_21 rfl), List.forall_mem_cons.mpr ⟨
  (gs_bipush dX12_best_24 rfl), List.forall_mem_cons.mpr ⟨
  (gs_cv dX12_best_26 (fun q hq => by
      simp only [List.mem_cons, List.not_mem_nil, or_false] at hq
      subst hq
      exact Or.inl ⟨_, rfl, by decide, by decide +kernel, by decide +kernel, List.forall_mem_cons.mpr ⟨gx_mem 1240 (by decide +kernel) (by decide +kernel), List.forall_mem_cons.mpr ⟨gx_mem 1242 (by decide +kernel) (by decide +kernel), List.forall_mem_cons.mpr ⟨gx_mem 21 (by decide +kernel) (by decide +kernel), List.forall_mem_cons.mpr ⟨gx_mem 96 (by decide +kernel) (by decide +kernel), List.forall_mem_cons.mpr ⟨cw_1243, fun _ h => absurd h List.not_mem_nil⟩⟩⟩⟩⟩⟩)), List.forall_mem_cons.mpr ⟨
  (gs_if_ne dX12_best_29 rfl), List.forall_mem_cons.mpr ⟨
  (gs_bipush dX12_best_32 rfl), List.forall_mem_cons.mpr ⟨
  (gs_ri dX12_best_34), List.forall_mem_cons.mpr ⟨
  (gs_iload_n dX12_best_35 rfl), List.forall_mem_cons.mpr ⟨
  (gs_if_ne dX12_best_36 rfl), List.forall_mem_cons.mpr ⟨
  (gs_aload_n dX12_best_39 rfl), List.forall_mem_cons.mpr ⟨
  (gs_iload_n dX12_best_40 rfl), List.forall_mem_cons.mpr ⟨
  (gs_cv dX12_best_41 (fun q hq => by
      simp only [List.mem_cons, List.not_mem_nil, or_false] at hq
      subst hq
      exact Or.inl ⟨_, rfl, by decide, by decide +kernel, by decide +kernel, List.forall_mem_cons.mpr ⟨gx_mem 1445 (by decide +kernel) (by decide +kernel), List.forall_mem_cons.mpr ⟨gx_mem 1447 (by decide +kernel) (by decide +kernel), List.forall_mem_cons.mpr ⟨gx_mem 61 (by decide +kernel) (by decide +kernel), List.forall_mem_cons.mpr ⟨gx_mem 96 (by decide +kernel) (by decide +kernel), List.forall_mem_cons.mpr ⟨cw_1448, fun _ h => absurd h List.not_mem_nil⟩⟩⟩⟩⟩⟩)), List.forall_mem_cons.mpr ⟨
  (gs_goto dX12_best_44 rfl), List.forall_mem_cons.mpr ⟨
  (gs_aload_n dX12_best_47 rfl), List.forall_mem_cons.mpr ⟨
  (gs_iload_n dX12_best_48 rfl), List.forall_mem_cons.mpr ⟨
  (gs_cv dX12_best_49 (fun q hq => by
      simp only [List.mem_cons, List.not_mem_nil, or_false] at hq
      subst hq
      exact Or.inl ⟨_, rfl, by decide, by decide +kernel, by decide +kernel, List.forall_mem_cons.mpr ⟨gx_mem 1454 (by decide +kernel) (by decide +kernel), List.forall_mem_cons.mpr ⟨gx_mem 1456 (by decide +kernel) (by decide +kernel), List.forall_mem_cons.mpr ⟨gx_mem 63 (by decide +kernel) (by decide +kernel), List.forall_mem_cons.mpr ⟨gx_mem 96 (by decide +kernel) (by decide +kernel), List.forall_mem_cons.mpr ⟨cw_1457, fun _ h => absurd h List.not_mem_nil⟩⟩⟩⟩⟩⟩)), List.forall_mem_cons.mpr ⟨
  (gs_ri dX12_best_52), fun _ h => absurd h List.not_mem_nil⟩⟩⟩⟩⟩⟩⟩⟩⟩⟩⟩⟩⟩⟩⟩⟩⟩⟩⟩⟩⟩⟩⟩⟩⟩⟩⟩⟩⟩⟩
theorem kt_X12_best (g : gx_T) : ∀ q ∈ k_X12_best, gx_E g gc_md RX12 cX12_best 3 (some .int) "best" q.1 q.2 := kt_X12_best_0 g
set_option maxRecDepth 20000 in
theorem dX12_see_0 : decode cX12_see 0 = .ok (.iload_n 1, 1) := by decide +kernel
set_option maxRecDepth 20000 in
theorem dX12_see_1 : decode cX12_see 1 = .ok (.iconst (-1), 1) := by decide +kernel
set_option maxRecDepth 20000 in
theorem dX12_see_2 : decode cX12_see 2 = .ok (.if_icmp .ne 10, 3) := by decide +kernel
set_option maxRecDepth 20000 in
theorem dX12_see_5 : decode cX12_see 5 = .ok (.aload_n 0, 1) := by decide +kernel
set_option maxRecDepth 20000 in
theorem dX12_see_6 : decode cX12_see 6 = .ok (.iconst 0, 1) := by decide +kernel
set_option maxRecDepth 20000 in
theorem dX12_see_7 : decode cX12_see 7 = .ok (.putfield 126, 3) := by decide +kernel
set_option maxRecDepth 20000 in
theorem dX12_see_10 : decode cX12_see 10 = .ok (.iconst 0, 1) := by decide +kernel
set_option maxRecDepth 20000 in
theorem dX12_see_11 : decode cX12_see 11 = .ok (.ireturn, 1) := by decide +kernel
set_option maxRecDepth 20000 in
theorem dX12_see_12 : decode cX12_see 12 = .ok (.aload_n 0, 1) := by decide +kernel
set_option maxRecDepth 20000 in
theorem dX12_see_13 : decode cX12_see 13 = .ok (.iload_n 1, 1) := by decide +kernel
set_option maxRecDepth 20000 in
theorem dX12_see_14 : decode cX12_see 14 = .ok (.invokevirtual 266, 3) := by decide +kernel
set_option maxRecDepth 20000 in
theorem dX12_see_17 : decode cX12_see 17 = .ok (.ifCond .ne 5, 3) := by decide +kernel
set_option maxRecDepth 20000 in
theorem dX12_see_20 : decode cX12_see 20 = .ok (.iconst (-1), 1) := by decide +kernel
set_option maxRecDepth 20000 in
theorem dX12_see_21 : decode cX12_see 21 = .ok (.ireturn, 1) := by decide +kernel
set_option maxRecDepth 20000 in
theorem dX12_see_22 : decode cX12_see 22 = .ok (.aload_n 0, 1) := by decide +kernel
set_option maxRecDepth 20000 in
theorem dX12_see_23 : decode cX12_see 23 = .ok (.iload_n 2, 1) := by decide +kernel
set_option maxRecDepth 20000 in
theorem dX12_see_24 : decode cX12_see 24 = .ok (.iconst 0, 1) := by decide +kernel
set_option maxRecDepth 20000 in
theorem dX12_see_25 : decode cX12_see 25 = .ok (.bipush 12, 2) := by decide +kernel
set_option maxRecDepth 20000 in
theorem dX12_see_27 : decode cX12_see 27 = .ok (.invokevirtual 255, 3) := by decide +kernel
set_option maxRecDepth 20000 in
theorem dX12_see_30 : decode cX12_see 30 = .ok (.ifCond .eq 13, 3) := by decide +kernel
set_option maxRecDepth 20000 in
theorem dX12_see_33 : decode cX12_see 33 = .ok (.aload_n 0, 1) := by decide +kernel
set_option maxRecDepth 20000 in
theorem dX12_see_34 : decode cX12_see 34 = .ok (.iload_n 3, 1) := by decide +kernel
set_option maxRecDepth 20000 in
theorem dX12_see_35 : decode cX12_see 35 = .ok (.iconst 0, 1) := by decide +kernel
set_option maxRecDepth 20000 in
theorem dX12_see_36 : decode cX12_see 36 = .ok (.iconst 3, 1) := by decide +kernel
set_option maxRecDepth 20000 in
theorem dX12_see_37 : decode cX12_see 37 = .ok (.invokevirtual 255, 3) := by decide +kernel
set_option maxRecDepth 20000 in
theorem dX12_see_40 : decode cX12_see 40 = .ok (.ifCond .ne 6, 3) := by decide +kernel
set_option maxRecDepth 20000 in
theorem dX12_see_43 : decode cX12_see 43 = .ok (.bipush (-2), 2) := by decide +kernel
set_option maxRecDepth 20000 in
theorem dX12_see_45 : decode cX12_see 45 = .ok (.ireturn, 1) := by decide +kernel
set_option maxRecDepth 20000 in
theorem dX12_see_46 : decode cX12_see 46 = .ok (.aload_n 0, 1) := by decide +kernel
set_option maxRecDepth 20000 in
theorem dX12_see_47 : decode cX12_see 47 = .ok (.getfield 126, 3) := by decide +kernel
set_option maxRecDepth 20000 in
theorem dX12_see_50 : decode cX12_see 50 = .ok (.iconst 5, 1) := by decide +kernel
set_option maxRecDepth 20000 in
theorem dX12_see_51 : decode cX12_see 51 = .ok (.if_icmp .ne 6, 3) := by decide +kernel
set_option maxRecDepth 20000 in
theorem dX12_see_54 : decode cX12_see 54 = .ok (.bipush (-4), 2) := by decide +kernel
set_option maxRecDepth 20000 in
theorem dX12_see_56 : decode cX12_see 56 = .ok (.ireturn, 1) := by decide +kernel
set_option maxRecDepth 20000 in
theorem dX12_see_57 : decode cX12_see 57 = .ok (.aload_n 0, 1) := by decide +kernel
set_option maxRecDepth 20000 in
theorem dX12_see_58 : decode cX12_see 58 = .ok (.getfield 129, 3) := by decide +kernel
set_option maxRecDepth 20000 in
theorem dX12_see_61 : decode cX12_see 61 = .ok (.aload_n 0, 1) := by decide +kernel
set_option maxRecDepth 20000 in
theorem dX12_see_62 : decode cX12_see 62 = .ok (.getfield 126, 3) := by decide +kernel
set_option maxRecDepth 20000 in
theorem dX12_see_65 : decode cX12_see 65 = .ok (.iload_n 1, 1) := by decide +kernel
set_option maxRecDepth 20000 in
theorem dX12_see_66 : decode cX12_see 66 = .ok (.iastore, 1) := by decide +kernel
set_option maxRecDepth 20000 in
theorem dX12_see_67 : decode cX12_see 67 = .ok (.aload_n 0, 1) := by decide +kernel
set_option maxRecDepth 20000 in
theorem dX12_see_68 : decode cX12_see 68 = .ok (.getfield 132, 3) := by decide +kernel
set_option maxRecDepth 20000 in
theorem dX12_see_71 : decode cX12_see 71 = .ok (.aload_n 0, 1) := by decide +kernel
set_option maxRecDepth 20000 in
theorem dX12_see_72 : decode cX12_see 72 = .ok (.getfield 126, 3) := by decide +kernel
set_option maxRecDepth 20000 in
theorem dX12_see_75 : decode cX12_see 75 = .ok (.iload_n 2, 1) := by decide +kernel
set_option maxRecDepth 20000 in
theorem dX12_see_76 : decode cX12_see 76 = .ok (.iastore, 1) := by decide +kernel
set_option maxRecDepth 20000 in
theorem dX12_see_77 : decode cX12_see 77 = .ok (.aload_n 0, 1) := by decide +kernel
set_option maxRecDepth 20000 in
theorem dX12_see_78 : decode cX12_see 78 = .ok (.getfield 135, 3) := by decide +kernel
set_option maxRecDepth 20000 in
theorem dX12_see_81 : decode cX12_see 81 = .ok (.aload_n 0, 1) := by decide +kernel
set_option maxRecDepth 20000 in
theorem dX12_see_82 : decode cX12_see 82 = .ok (.getfield 126, 3) := by decide +kernel
set_option maxRecDepth 20000 in
theorem dX12_see_85 : decode cX12_see 85 = .ok (.iload_n 3, 1) := by decide +kernel
set_option maxRecDepth 20000 in
theorem dX12_see_86 : decode cX12_see 86 = .ok (.iastore, 1) := by decide +kernel
set_option maxRecDepth 20000 in
theorem dX12_see_87 : decode cX12_see 87 = .ok (.aload_n 0, 1) := by decide +kernel
set_option maxRecDepth 20000 in
theorem dX12_see_88 : decode cX12_see 88 = .ok (.dup, 1) := by decide +kernel
set_option maxRecDepth 20000 in
theorem dX12_see_89 : decode cX12_see 89 = .ok (.getfield 126, 3) := by decide +kernel
set_option maxRecDepth 20000 in
theorem dX12_see_92 : decode cX12_see 92 = .ok (.iconst 1, 1) := by decide +kernel
set_option maxRecDepth 20000 in
theorem dX12_see_93 : decode cX12_see 93 = .ok (.iadd, 1) := by decide +kernel
set_option maxRecDepth 20000 in
theorem dX12_see_94 : decode cX12_see 94 = .ok (.putfield 126, 3) := by decide +kernel
set_option maxRecDepth 20000 in
theorem dX12_see_97 : decode cX12_see 97 = .ok (.aload_n 0, 1) := by decide +kernel
set_option maxRecDepth 20000 in
theorem dX12_see_98 : decode cX12_see 98 = .ok (.getfield 126, 3) := by decide +kernel
set_option maxRecDepth 20000 in
theorem dX12_see_101 : decode cX12_see 101 = .ok (.ireturn, 1) := by decide +kernel
set_option maxRecDepth 20000 in
theorem kt_X12_see_0 (g : gx_T) : ∀ q ∈ k_X12_see_0, gx_E g gc_md RX12 cX12_see 4 (some .int) "see" q.1 q.2 := List.forall_mem_cons.mpr ⟨(gs_iload_n dX12_see_0 rfl), List.forall_mem_cons.mpr ⟨
  (gs_iconst dX12_see_1 rfl), List.forall_mem_cons.mpr ⟨
  (gs_icmp_ne dX12_see_2 rfl), List.forall_mem_cons.mpr ⟨
  (gs_aload_n dX12_see_5 rfl), List.forall_mem_cons.mpr ⟨
  (gs_iconst dX12_see_6 rfl), List.forall_mem_cons.mpr ⟨
  (gs_pf (ref := "GriefCranesModel") dX12_see_7 (gx_mem 1035 (by decide +kernel) (by decide +kernel)) (Or.inl rfl) gf_12_38 (by decide +kernel)), List.forall_mem_cons.mpr ⟨
  (gs_iconst dX12_see_10 rfl), List.forall_mem_cons.mpr ⟨
  (gs_ri dX12_see_11), List.forall_mem_cons.mpr ⟨
  (gs_aload_n dX12_see_12 rfl), List.forall_mem_cons.mpr ⟨
  (gs_iload_n dX12_see_13 rfl), List.forall_mem_cons.mpr ⟨
  (gs_cv dX12_see_14 (fun q hq => by
      simp only [List.mem_cons, List.not_mem_nil, or_false] at hq
      subst hq
      exact Or.inl ⟨_, rfl, by decide, by decide +kernel, by decide +kernel, List.forall_mem_cons.mpr ⟨gx_mem 1260 (by decide +kernel) (by decide +kernel), List.forall_mem_cons.mpr ⟨gx_mem 1262 (by decide +kernel) (by decide +kernel), List.forall_mem_cons.mpr ⟨gx_mem 24 (by decide +kernel) (by decide +kernel), List.forall_mem_cons.mpr ⟨gx_mem 96 (by decide +kernel) (by decide +kernel), List.forall_mem_cons.mpr ⟨cw_1263, fun _ h => absurd h List.not_mem_nil⟩⟩⟩⟩⟩⟩)), List.forall_mem_cons.mpr ⟨
  (gs_if_ne dX12_see_17 rfl), List.forall_mem_cons.mpr ⟨
  (gs_iconst dX12_see_20 rfl), List.forall_mem_cons.mpr ⟨
  (gs_ri dX12_see_21), List.forall_mem_cons.mpr ⟨
  (gs_aload_n dX12_see_22 rfl), List.forall_mem_cons.mpr ⟨
  (gs_iload_n dX12_see_23 rfl), List.forall_mem_cons.mpr ⟨
  (gs_iconst dX12_see_24 rfl), List.forall_mem_cons.mpr ⟨
  (gs_bipush dX12_see_25 rfl), List.forall_mem_cons.mpr ⟨
  (gs_cv dX12_see_27 (fun q hq => by
      simp only [List.mem_cons, List.not_mem_nil, or_false] at hq
      subst hq
      exact Or.inl ⟨_, rfl, by decide, by decide +kernel, by decide +kernel, List.forall_mem_cons.mpr ⟨gx_mem 1240 (by decide +kernel) (by decide +kernel), List.forall_mem_cons.mpr ⟨gx_mem 1242 (by decide +kernel) (by decide +kernel), List.forall_mem_cons.mpr ⟨gx_mem 21 (by decide +kernel) (by decide +kernel), List.forall_mem_cons.mpr ⟨gx_mem 96 (by decide +kernel) (by decide +kernel), List.forall_mem_cons.mpr ⟨cw_1243, fun _ h => absurd h List.not_mem_nil⟩⟩⟩⟩⟩⟩)), List.forall_mem_cons.mpr ⟨
  (gs_if_eq dX12_see_30 rfl), List.forall_mem_cons.mpr ⟨
  (gs_aload_n dX12_see_33 rfl), List.forall_mem_cons.mpr ⟨
  (gs_iload_n dX12_see_34 rfl), List.forall_mem_cons.mpr ⟨
  (gs_iconst dX12_see_35 rfl), List.forall_mem_cons.mpr ⟨
  (gs_iconst dX12_see_36 rfl), List.forall_mem_cons.mpr ⟨
  (gs_cv dX12_see_37 (fun q hq => by
      simp only [List.mem_cons, List.not_mem_nil, or_false] at hq
      subst hq
      exact Or.inl ⟨_, rfl, by decide, by decide +kernel, by decide +kernel, List.forall_mem_cons.mpr ⟨gx_mem 1240 (by decide +kernel) (by decide +kernel), List.forall_mem_cons.mpr ⟨gx_mem 1242 (by decide +kernel) (by decide +kernel), List.forall_mem_cons.mpr ⟨gx_mem 21 (by decide +kernel) (by decide +kernel), List.forall_mem_cons.mpr ⟨gx_mem 96 (by decide +kernel) (by decide +kernel), List.forall_mem_cons.mpr ⟨cw_1243, fun _ h => absurd h List.not_mem_nil⟩⟩⟩⟩⟩⟩)), List.forall_mem_cons.mpr ⟨
  (gs_if_ne dX12_see_40 rfl), List.forall_mem_cons.mpr ⟨
  (gs_bipush dX12_see_43 rfl), List.forall_mem_cons.mpr ⟨
  (gs_ri dX12_see_45), List.forall_mem_cons.mpr ⟨
  (gs_aload_n dX12_see_46 rfl), List.forall_mem_cons.mpr ⟨
  (gs_gf (ref := "GriefCranesModel") dX12_see_47 (gx_mem 1035 (by decide +kernel) (by decide +kernel)) (Or.inl rfl) gf_12_38), List.forall_mem_cons.mpr ⟨
  (gs_iconst dX12_see_50 rfl), List.forall_mem_cons.mpr ⟨
  (gs_icmp_ne dX12_see_51 rfl), fun _ h => absurd h List.not_mem_nil⟩⟩⟩⟩⟩⟩⟩⟩⟩⟩⟩⟩⟩⟩⟩⟩⟩⟩⟩⟩⟩⟩⟩⟩⟩⟩⟩⟩⟩⟩⟩⟩
set_option maxRecDepth 20000 in
theorem kt_X12_see_1 (g : gx_T) : ∀ q ∈ k_X12_see_1, gx_E g gc_md RX12 cX12_see 4 (some .int) "see" q.1 q.2 := List.forall_mem_cons.mpr ⟨(gs_bipush dX12_see_54 rfl), List.forall_mem_cons.mpr ⟨
  (gs_ri dX12_see_56), List.forall_mem_cons.mpr ⟨
  (gs_aload_n dX12_see_57 rfl), List.forall_mem_cons.mpr ⟨
  (gs_gf (ref := "GriefCranesModel") dX12_see_58 (gx_mem 1036 (by decide +kernel) (by decide +kernel)) (Or.inl rfl) gf_12_39), List.forall_mem_cons.mpr ⟨
  (gs_aload_n dX12_see_61 rfl), List.forall_mem_cons.mpr ⟨
  (gs_gf (ref := "GriefCranesModel") dX12_see_62 (gx_mem 1035 (by decide +kernel) (by decide +kernel)) (Or.inl rfl) gf_12_38), List.forall_mem_cons.mpr ⟨
  (gs_iload_n dX12_see_65 rfl), List.forall_mem_cons.mpr ⟨
  (gs_iastore dX12_see_66), List.forall_mem_cons.mpr ⟨
  (gs_aload_n dX12_see_67 rfl), List.forall_mem_cons.mpr ⟨
  (gs_gf (ref := "GriefCranesModel") dX12_see_68 (gx_mem 1037 (by decide +kernel) (by decide +kernel)) (Or.inl rfl) gf_12_40), List.forall_mem_cons.mpr ⟨
  (gs_aload_n dX12_see_71 rfl), List.forall_mem_cons.mpr ⟨
  (gs_gf (ref := "GriefCranesModel") dX12_see_72 (gx_mem 1035 (by decide +kernel) (by decide +kernel)) (Or.inl rfl) gf_12_38), List.forall_mem_cons.mpr ⟨
  (gs_iload_n dX12_see_75 rfl), List.forall_mem_cons.mpr ⟨
  (gs_iastore dX12_see_76), List.forall_mem_cons.mpr ⟨
  (gs_aload_n dX12_see_77 rfl), List.forall_mem_cons.mpr ⟨
  (gs_gf (ref := "GriefCranesModel") dX12_see_78 (gx_mem 1038 (by decide +kernel) (by decide +kernel)) (Or.inl rfl) gf_12_41), List.forall_mem_cons.mpr ⟨
  (gs_aload_n dX12_see_81 rfl), List.forall_mem_cons.mpr ⟨
  (gs_gf (ref := "GriefCranesModel") dX12_see_82 (gx_mem 1035 (by decide +kernel) (by decide +kernel)) (Or.inl rfl) gf_12_38), List.forall_mem_cons.mpr ⟨
  (gs_iload_n dX12_see_85 rfl), List.forall_mem_cons.mpr ⟨
  (gs_iastore dX12_see_86), List.forall_mem_cons.mpr ⟨
  (gs_aload_n dX12_see_87 rfl), List.forall_mem_cons.mpr ⟨
  (gs_dup dX12_see_88), List.forall_mem_cons.mpr ⟨
  (gs_gf (ref := "GriefCranesModel") dX12_see_89 (gx_mem 1035 (by decide +kernel) (by decide +kernel)) (Or.inl rfl) gf_12_38), List.forall_mem_cons.mpr ⟨
  (gs_iconst dX12_see_92 rfl), List.forall_mem_cons.mpr ⟨
  (gs_iadd dX12_see_93), List.forall_mem_cons.mpr ⟨
  (gs_pf (ref := "GriefCranesModel") dX12_see_94 (gx_mem 1035 (by decide +kernel) (by decide +kernel)) (Or.inl rfl) gf_12_38 (by decide +kernel)), List.forall_mem_cons.mpr ⟨
  (gs_aload_n dX12_see_97 rfl), List.forall_mem_cons.mpr ⟨
  (gs_gf (ref := "GriefCranesModel") dX12_see_98 (gx_mem 1035 (by decide +kernel) (by decide +kernel)) (Or.inl rfl) gf_12_38), List.forall_mem_cons.mpr ⟨
  (gs_ri dX12_see_101), fun _ h => absurd h List.not_mem_nil⟩⟩⟩⟩⟩⟩⟩⟩⟩⟩⟩⟩⟩⟩⟩⟩⟩⟩⟩⟩⟩⟩⟩⟩⟩⟩⟩⟩⟩
theorem kt_X12_see (g : gx_T) : ∀ q ∈ k_X12_see, gx_E g gc_md RX12 cX12_see 4 (some .int) "see" q.1 q.2 := List.forall_mem_append.mpr ⟨kt_X12_see_0 g, kt_X12_see_1 g⟩
set_option maxRecDepth 20000 in
theorem dX12_isSeen_0 : decode cX12_isSeen 0 = .ok (.iconst 1, 1) := by decide +kernel
set_option maxRecDepth 20000 in
theorem dX12_isSeen_1 : decode cX12_isSeen 1 = .ok (.istore_n 1, 1) := by decide +kernel
set_option maxRecDepth 20000 in
theorem dX12_isSeen_2 : decode cX12_isSeen 2 = .ok (.iconst 0, 1) := by decide +kernel
set_option maxRecDepth 20000 in
theorem dX12_isSeen_3 : decode cX12_isSeen 3 = .ok (.istore_n 2, 1) := by decide +kernel
set_option maxRecDepth 20000 in
theorem dX12_isSeen_4 : decode cX12_isSeen 4 = .ok (.iload_n 2, 1) := by decide +kernel
set_option maxRecDepth 20000 in
theorem dX12_isSeen_5 : decode cX12_isSeen 5 = .ok (.aload_n 0, 1) := by decide +kernel
set_option maxRecDepth 20000 in
theorem dX12_isSeen_6 : decode cX12_isSeen 6 = .ok (.getfield 126, 3) := by decide +kernel
set_option maxRecDepth 20000 in
theorem dX12_isSeen_9 : decode cX12_isSeen 9 = .ok (.if_icmp .ge 57, 3) := by decide +kernel
set_option maxRecDepth 20000 in
theorem dX12_isSeen_12 : decode cX12_isSeen 12 = .ok (.iload_n 1, 1) := by decide +kernel
set_option maxRecDepth 20000 in
theorem dX12_isSeen_13 : decode cX12_isSeen 13 = .ok (.ifCond .eq 53, 3) := by decide +kernel
set_option maxRecDepth 20000 in
theorem dX12_isSeen_16 : decode cX12_isSeen 16 = .ok (.aload_n 0, 1) := by decide +kernel
set_option maxRecDepth 20000 in
theorem dX12_isSeen_17 : decode cX12_isSeen 17 = .ok (.invokevirtual 370, 3) := by decide +kernel
set_option maxRecDepth 20000 in
theorem dX12_isSeen_20 : decode cX12_isSeen 20 = .ok (.aload_n 0, 1) := by decide +kernel
set_option maxRecDepth 20000 in
theorem dX12_isSeen_21 : decode cX12_isSeen 21 = .ok (.aload_n 0, 1) := by decide +kernel
set_option maxRecDepth 20000 in
theorem dX12_isSeen_22 : decode cX12_isSeen 22 = .ok (.getfield 132, 3) := by decide +kernel
set_option maxRecDepth 20000 in
theorem dX12_isSeen_25 : decode cX12_isSeen 25 = .ok (.iload_n 2, 1) := by decide +kernel
set_option maxRecDepth 20000 in
theorem dX12_isSeen_26 : decode cX12_isSeen 26 = .ok (.iaload, 1) := by decide +kernel
set_option maxRecDepth 20000 in
theorem dX12_isSeen_27 : decode cX12_isSeen 27 = .ok (.invokevirtual 366, 3) := by decide +kernel
set_option maxRecDepth 20000 in
theorem dX12_isSeen_30 : decode cX12_isSeen 30 = .ok (.aload_n 0, 1) := by decide +kernel
set_option maxRecDepth 20000 in
theorem dX12_isSeen_31 : decode cX12_isSeen 31 = .ok (.getfield 41, 3) := by decide +kernel
set_option maxRecDepth 20000 in
theorem dX12_isSeen_34 : decode cX12_isSeen 34 = .ok (.aload_n 0, 1) := by decide +kernel
set_option maxRecDepth 20000 in
theorem dX12_isSeen_35 : decode cX12_isSeen 35 = .ok (.getfield 129, 3) := by decide +kernel
set_option maxRecDepth 20000 in
theorem dX12_isSeen_38 : decode cX12_isSeen 38 = .ok (.iload_n 2, 1) := by decide +kernel
set_option maxRecDepth 20000 in
theorem dX12_isSeen_39 : decode cX12_isSeen 39 = .ok (.iaload, 1) := by decide +kernel
set_option maxRecDepth 20000 in
theorem dX12_isSeen_40 : decode cX12_isSeen 40 = .ok (.iaload, 1) := by decide +kernel
set_option maxRecDepth 20000 in
theorem dX12_isSeen_41 : decode cX12_isSeen 41 = .ok (.aload_n 0, 1) := by decide +kernel
set_option maxRecDepth 20000 in
theorem dX12_isSeen_42 : decode cX12_isSeen 42 = .ok (.getfield 135, 3) := by decide +kernel
set_option maxRecDepth 20000 in
theorem dX12_isSeen_45 : decode cX12_isSeen 45 = .ok (.iload_n 2, 1) := by decide +kernel
set_option maxRecDepth 20000 in
theorem dX12_isSeen_46 : decode cX12_isSeen 46 = .ok (.iaload, 1) := by decide +kernel
set_option maxRecDepth 20000 in
theorem dX12_isSeen_47 : decode cX12_isSeen 47 = .ok (.if_icmp .ne 7, 3) := by decide +kernel
set_option maxRecDepth 20000 in
theorem dX12_isSeen_50 : decode cX12_isSeen 50 = .ok (.iconst 1, 1) := by decide +kernel
set_option maxRecDepth 20000 in
theorem dX12_isSeen_51 : decode cX12_isSeen 51 = .ok (.goto 4, 3) := by decide +kernel
set_option maxRecDepth 20000 in
theorem dX12_isSeen_54 : decode cX12_isSeen 54 = .ok (.iconst 0, 1) := by decide +kernel
set_option maxRecDepth 20000 in
theorem dX12_isSeen_55 : decode cX12_isSeen 55 = .ok (.istore_n 1, 1) := by decide +kernel
set_option maxRecDepth 20000 in
theorem dX12_isSeen_56 : decode cX12_isSeen 56 = .ok (.aload_n 0, 1) := by decide +kernel
set_option maxRecDepth 20000 in
theorem dX12_isSeen_57 : decode cX12_isSeen 57 = .ok (.invokevirtual 373, 3) := by decide +kernel
set_option maxRecDepth 20000 in
theorem dX12_isSeen_60 : decode cX12_isSeen 60 = .ok (.iinc 2 1, 3) := by decide +kernel
set_option maxRecDepth 20000 in
theorem dX12_isSeen_63 : decode cX12_isSeen 63 = .ok (.goto (-59), 3) := by decide +kernel
set_option maxRecDepth 20000 in
theorem dX12_isSeen_66 : decode cX12_isSeen 66 = .ok (.iload_n 1, 1) := by decide +kernel
set_option maxRecDepth 20000 in
theorem dX12_isSeen_67 : decode cX12_isSeen 67 = .ok (.ireturn, 1) := by decide +kernel
set_option maxRecDepth 20000 in
theorem kt_X12_isSeen_0 (g : gx_T) : ∀ q ∈ k_X12_isSeen_0, gx_E g gc_md RX12 cX12_isSeen 3 (some .boolean) "isSeen" q.1 q.2 := List.forall_mem_cons.mpr ⟨(gs_iconst dX12_isSeen_0 rfl), List.forall_mem_cons.mpr ⟨
  (gs_istore_n dX12_isSeen_1 rfl), List.forall_mem_cons.mpr ⟨
  (gs_iconst dX12_isSeen_2 rfl), List.forall_mem_cons.mpr ⟨
  (gs_istore_n dX12_isSeen_3 rfl), List.forall_mem_cons.mpr ⟨
  (gs_iload_n dX12_isSeen_4 rfl), List.forall_mem_cons.mpr ⟨
  (gs_aload_n dX12_isSeen_5 rfl), List.forall_mem_cons.mpr ⟨
  (gs_gf (ref := "GriefCranesModel") dX12_isSeen_6 (gx_mem 1035 (by decide +kernel) (by decide +kernel)) (Or.inl rfl) gf_12_38), List.forall_mem_cons.mpr ⟨
  (gs_icmp_ge dX12_isSeen_9 rfl), List.forall_mem_cons.mpr ⟨
  (gs_iload_n dX12_isSeen_12 rfl), List.forall_mem_cons.mpr ⟨
  (gs_if_eq dX12_isSeen_13 rfl), List.forall_mem_cons.mpr ⟨
  (gs_aload_n dX12_isSeen_16 rfl), List.forall_mem_cons.mpr ⟨
  (gs_cv dX12_isSeen_17 (fun q hq => by
      simp only [List.mem_cons, List.not_mem_nil, or_false] at hq
      subst hq
      exact Or.inl ⟨_, rfl, by decide, by decide +kernel, by decide +kernel, List.forall_mem_cons.mpr ⟨gx_mem 1424 (by decide +kernel) (by decide +kernel), List.forall_mem_cons.mpr ⟨gx_mem 1426 (by decide +kernel) (by decide +kernel), List.forall_mem_cons.mpr ⟨gx_mem 57 (by decide +kernel) (by decide +kernel), List.forall_mem_cons.mpr ⟨gx_mem 96 (by decide +kernel) (by decide +kernel), List.forall_mem_cons.mpr ⟨cw_1427, fun _ h => absurd h List.not_mem_nil⟩⟩⟩⟩⟩⟩)), List.forall_mem_cons.mpr ⟨
  (gs_aload_n dX12_isSeen_20 rfl), List.forall_mem_cons.mpr ⟨
  (gs_aload_n dX12_isSeen_21 rfl), List.forall_mem_cons.mpr ⟨
  (gs_gf (ref := "GriefCranesModel") dX12_isSeen_22 (gx_mem 1037 (by decide +kernel) (by decide +kernel)) (Or.inl rfl) gf_12_40), List.forall_mem_cons.mpr ⟨
  (gs_iload_n dX12_isSeen_25 rfl), List.forall_mem_cons.mpr ⟨
  (gs_iaload dX12_isSeen_26), List.forall_mem_cons.mpr ⟨
  (gs_cv dX12_isSeen_27 (fun q hq => by
      simp only [List.mem_cons, List.not_mem_nil, or_false] at hq
      subst hq
      exact Or.inl ⟨_, rfl, by decide, by decide +kernel, by decide +kernel, List.forall_mem_cons.mpr ⟨gx_mem 1384 (by decide +kernel) (by decide +kernel), List.forall_mem_cons.mpr ⟨gx_mem 1386 (by decide +kernel) (by decide +kernel), List.forall_mem_cons.mpr ⟨gx_mem 49 (by decide +kernel) (by decide +kernel), List.forall_mem_cons.mpr ⟨gx_mem 96 (by decide +kernel) (by decide +kernel), List.forall_mem_cons.mpr ⟨cw_1387, fun _ h => absurd h List.not_mem_nil⟩⟩⟩⟩⟩⟩)), List.forall_mem_cons.mpr ⟨
  (gs_aload_n dX12_isSeen_30 rfl), List.forall_mem_cons.mpr ⟨
  (gs_gf (ref := "GriefCranesModel") dX12_isSeen_31 (gx_mem 1007 (by decide +kernel) (by decide +kernel)) (Or.inl rfl) gf_12_10), List.forall_mem_cons.mpr ⟨
  (gs_aload_n dX12_isSeen_34 rfl), List.forall_mem_cons.mpr ⟨
  (gs_gf (ref := "GriefCranesModel") dX12_isSeen_35 (gx_mem 1036 (by decide +kernel) (by decide +kernel)) (Or.inl rfl) gf_12_39), List.forall_mem_cons.mpr ⟨
  (gs_iload_n dX12_isSeen_38 rfl), List.forall_mem_cons.mpr ⟨
  (gs_iaload dX12_isSeen_39), List.forall_mem_cons.mpr ⟨
  (gs_iaload dX12_isSeen_40), List.forall_mem_cons.mpr ⟨
  (gs_aload_n dX12_isSeen_41 rfl), List.forall_mem_cons.mpr ⟨
  (gs_gf (ref := "GriefCranesModel") dX12_isSeen_42 (gx_mem 1038 (by decide +kernel) (by decide +kernel)) (Or.inl rfl) gf_12_41), List.forall_mem_cons.mpr ⟨
  (gs_iload_n dX12_isSeen_45 rfl), List.forall_mem_cons.mpr ⟨
  (gs_iaload dX12_isSeen_46), List.forall_mem_cons.mpr ⟨
  (gs_icmp_ne dX12_isSeen_47 rfl), List.forall_mem_cons.mpr ⟨
  (gs_iconst dX12_isSeen_50 rfl), List.forall_mem_cons.mpr ⟨
  (gs_goto dX12_isSeen_51 rfl), fun _ h => absurd h List.not_mem_nil⟩⟩⟩⟩⟩⟩⟩⟩⟩⟩⟩⟩⟩⟩⟩⟩⟩⟩⟩⟩⟩⟩⟩⟩⟩⟩⟩⟩⟩⟩⟩⟩
set_option maxRecDepth 20000 in
theorem kt_X12_isSeen_1 (g : gx_T) : ∀ q ∈ k_X12_isSeen_1, gx_E g gc_md RX12 cX12_isSeen 3 (some .boolean) "isSeen" q.1 q.2 := List.forall_mem_cons.mpr ⟨(gs_iconst dX12_isSeen_54 rfl), List.forall_mem_cons.mpr ⟨
  (gs_istore_n dX12_isSeen_55 rfl), List.forall_mem_cons.mpr ⟨
  (gs_aload_n dX12_isSeen_56 rfl), List.forall_mem_cons.mpr ⟨
  (gs_cv dX12_isSeen_57 (fun q hq => by
      simp only [List.mem_cons, List.not_mem_nil, or_false] at hq
      subst hq
      exact Or.inl ⟨_, rfl, by decide, by decide +kernel, by decide +kernel, List.forall_mem_cons.mpr ⟨gx_mem 1437 (by decide +kernel) (by decide +kernel), List.forall_mem_cons.mpr ⟨gx_mem 1439 (by decide +kernel) (by decide +kernel), List.forall_mem_cons.mpr ⟨gx_mem 60 (by decide +kernel) (by decide +kernel), List.forall_mem_cons.mpr ⟨gx_mem 96 (by decide +kernel) (by decide +kernel), List.forall_mem_cons.mpr ⟨cw_1440, fun _ h => absurd h List.not_mem_nil⟩⟩⟩⟩⟩⟩)), List.forall_mem_cons.mpr ⟨
  (gs_iinc dX12_isSeen_60), List.forall_mem_cons.mpr ⟨
  (gs_goto dX12_isSeen_63 rfl), List.forall_mem_cons.mpr ⟨
  (gs_iload_n dX12_isSeen_66 rfl), List.forall_mem_cons.mpr ⟨
  (gs_rn dX12_isSeen_67 (by decide)), fun _ h => absurd h List.not_mem_nil⟩⟩⟩⟩⟩⟩⟩⟩
theorem kt_X12_isSeen (g : gx_T) : ∀ q ∈ k_X12_isSeen, gx_E g gc_md RX12 cX12_isSeen 3 (some .boolean) "isSeen" q.1 q.2 := List.forall_mem_append.mpr ⟨kt_X12_isSeen_0 g, kt_X12_isSeen_1 g⟩
set_option maxRecDepth 20000 in
theorem dX12_griefs_0 : decode cX12_griefs 0 = .ok (.aload_n 0, 1) := by decide +kernel
set_option maxRecDepth 20000 in
theorem dX12_griefs_1 : decode cX12_griefs 1 = .ok (.getfield 35, 3) := by decide +kernel
set_option maxRecDepth 20000 in
theorem dX12_griefs_4 : decode cX12_griefs 4 = .ok (.iload_n 1, 1) := by decide +kernel
set_option maxRecDepth 20000 in
theorem dX12_griefs_5 : decode cX12_griefs 5 = .ok (.iaload, 1) := by decide +kernel
set_option maxRecDepth 20000 in
theorem dX12_griefs_6 : decode cX12_griefs 6 = .ok (.istore_n 3, 1) := by decide +kernel
set_option maxRecDepth 20000 in
theorem dX12_griefs_7 : decode cX12_griefs 7 = .ok (.iconst 0, 1) := by decide +kernel
set_option maxRecDepth 20000 in
theorem dX12_griefs_8 : decode cX12_griefs 8 = .ok (.istore 4, 2) := by decide +kernel
set_option maxRecDepth 20000 in
theorem dX12_griefs_10 : decode cX12_griefs 10 = .ok (.bipush (-5), 2) := by decide +kernel
set_option maxRecDepth 20000 in
theorem dX12_griefs_12 : decode cX12_griefs 12 = .ok (.istore 5, 2) := by decide +kernel
set_option maxRecDepth 20000 in
theorem dX12_griefs_14 : decode cX12_griefs 14 = .ok (.bipush 99, 2) := by decide +kernel
set_option maxRecDepth 20000 in
theorem dX12_griefs_16 : decode cX12_griefs 16 = .ok (.istore 6, 2) := by decide +kernel
set_option maxRecDepth 20000 in
theorem dX12_griefs_18 : decode cX12_griefs 18 = .ok (.iload 6, 2) := by decide +kernel
set_option maxRecDepth 20000 in
theorem dX12_griefs_20 : decode cX12_griefs 20 = .ok (.ifCond .lt 34, 3) := by decide +kernel
set_option maxRecDepth 20000 in
theorem dX12_griefs_23 : decode cX12_griefs 23 = .ok (.aload_n 0, 1) := by decide +kernel
set_option maxRecDepth 20000 in
theorem dX12_griefs_24 : decode cX12_griefs 24 = .ok (.getfield 35, 3) := by decide +kernel
set_option maxRecDepth 20000 in
theorem dX12_griefs_27 : decode cX12_griefs 27 = .ok (.iload_n 1, 1) := by decide +kernel
set_option maxRecDepth 20000 in
theorem dX12_griefs_28 : decode cX12_griefs 28 = .ok (.iload 6, 2) := by decide +kernel
set_option maxRecDepth 20000 in
theorem dX12_griefs_30 : decode cX12_griefs 30 = .ok (.iastore, 1) := by decide +kernel
set_option maxRecDepth 20000 in
theorem dX12_griefs_31 : decode cX12_griefs 31 = .ok (.aload_n 0, 1) := by decide +kernel
set_option maxRecDepth 20000 in
theorem dX12_griefs_32 : decode cX12_griefs 32 = .ok (.invokevirtual 400, 3) := by decide +kernel
set_option maxRecDepth 20000 in
theorem dX12_griefs_35 : decode cX12_griefs 35 = .ok (.ifCond .ne 6, 3) := by decide +kernel
set_option maxRecDepth 20000 in
theorem dX12_griefs_38 : decode cX12_griefs 38 = .ok (.goto 10, 3) := by decide +kernel
set_option maxRecDepth 20000 in
theorem dX12_griefs_41 : decode cX12_griefs 41 = .ok (.iinc 4 1, 3) := by decide +kernel
set_option maxRecDepth 20000 in
theorem dX12_griefs_44 : decode cX12_griefs 44 = .ok (.iload 6, 2) := by decide +kernel
set_option maxRecDepth 20000 in
theorem dX12_griefs_46 : decode cX12_griefs 46 = .ok (.istore 5, 2) := by decide +kernel
set_option maxRecDepth 20000 in
theorem dX12_griefs_48 : decode cX12_griefs 48 = .ok (.iinc 6 (-1), 3) := by decide +kernel
set_option maxRecDepth 20000 in
theorem dX12_griefs_51 : decode cX12_griefs 51 = .ok (.goto (-33), 3) := by decide +kernel
set_option maxRecDepth 20000 in
theorem dX12_griefs_54 : decode cX12_griefs 54 = .ok (.aload_n 0, 1) := by decide +kernel
set_option maxRecDepth 20000 in
theorem dX12_griefs_55 : decode cX12_griefs 55 = .ok (.getfield 35, 3) := by decide +kernel
set_option maxRecDepth 20000 in
theorem dX12_griefs_58 : decode cX12_griefs 58 = .ok (.iload_n 1, 1) := by decide +kernel
set_option maxRecDepth 20000 in
theorem dX12_griefs_59 : decode cX12_griefs 59 = .ok (.iload_n 3, 1) := by decide +kernel
set_option maxRecDepth 20000 in
theorem dX12_griefs_60 : decode cX12_griefs 60 = .ok (.iastore, 1) := by decide +kernel
set_option maxRecDepth 20000 in
theorem dX12_griefs_61 : decode cX12_griefs 61 = .ok (.iload_n 2, 1) := by decide +kernel
set_option maxRecDepth 20000 in
theorem dX12_griefs_62 : decode cX12_griefs 62 = .ok (.ifCond .eq 8, 3) := by decide +kernel
set_option maxRecDepth 20000 in
theorem dX12_griefs_65 : decode cX12_griefs 65 = .ok (.iload 4, 2) := by decide +kernel
set_option maxRecDepth 20000 in
theorem dX12_griefs_67 : decode cX12_griefs 67 = .ok (.goto 5, 3) := by decide +kernel
set_option maxRecDepth 20000 in
theorem dX12_griefs_70 : decode cX12_griefs 70 = .ok (.iload 5, 2) := by decide +kernel
set_option maxRecDepth 20000 in
theorem dX12_griefs_72 : decode cX12_griefs 72 = .ok (.ireturn, 1) := by decide +kernel
set_option maxRecDepth 20000 in
theorem kt_X12_griefs_0 (g : gx_T) : ∀ q ∈ k_X12_griefs_0, gx_E g gc_md RX12 cX12_griefs 7 (some .int) "griefs" q.1 q.2 := List.forall_mem_cons.mpr ⟨(gs_aload_n dX12_griefs_0 rfl), List.forall_mem_cons.mpr ⟨
  (gs_gf (ref := "GriefCranesModel") dX12_griefs_1 (gx_mem 1005 (by decide +kernel) (by decide +kernel)) (Or.inl rfl) gf_12_8), List.forall_mem_cons.mpr ⟨
  (gs_iload_n dX12_griefs_4 rfl), List.forall_mem_cons.mpr ⟨
  (gs_iaload dX12_griefs_5), List.forall_mem_cons.mpr ⟨
  (gs_istore_n dX12_griefs_6 rfl), List.forall_mem_cons.mpr ⟨
  (gs_iconst dX12_griefs_7 rfl), List.forall_mem_cons.mpr ⟨
  (gs_istore dX12_griefs_8), List.forall_mem_cons.mpr ⟨
  (gs_bipush dX12_griefs_10 rfl), List.forall_mem_cons.mpr ⟨
  (gs_istore dX12_griefs_12), List.forall_mem_cons.mpr ⟨
  (gs_bipush dX12_griefs_14 rfl), List.forall_mem_cons.mpr ⟨
  (gs_istore dX12_griefs_16), List.forall_mem_cons.mpr ⟨
  (gs_iload dX12_griefs_18), List.forall_mem_cons.mpr ⟨
  (gs_if_lt dX12_griefs_20 rfl), List.forall_mem_cons.mpr ⟨
  (gs_aload_n dX12_griefs_23 rfl), List.forall_mem_cons.mpr ⟨
  (gs_gf (ref := "GriefCranesModel") dX12_griefs_24 (gx_mem 1005 (by decide +kernel) (by decide +kernel)) (Or.inl rfl) gf_12_8), List.forall_mem_cons.mpr ⟨
  (gs_iload_n dX12_griefs_27 rfl), List.forall_mem_cons.mpr ⟨
  (gs_iload dX12_griefs_28), List.forall_mem_cons.mpr ⟨
  (gs_iastore dX12_griefs_30), List.forall_mem_cons.mpr ⟨
  (gs_aload_n dX12_griefs_31 rfl), List.forall_mem_cons.mpr ⟨
  (gs_cv dX12_griefs_32 (fun q hq => by
      simp only [List.mem_cons, List.not_mem_nil, or_false] at hq
      subst hq
      exact Or.inl ⟨_, rfl, by decide, by decide +kernel, by decide +kernel, List.forall_mem_cons.mpr ⟨gx_mem 1486 (by decide +kernel) (by decide +kernel), List.forall_mem_cons.mpr ⟨gx_mem 1488 (by decide +kernel) (by decide +kernel), List.forall_mem_cons.mpr ⟨gx_mem 69 (by decide +kernel) (by decide +kernel), List.forall_mem_cons.mpr ⟨gx_mem 96 (by decide +kernel) (by decide +kernel), List.forall_mem_cons.mpr ⟨cw_1489, fun _ h => absurd h List.not_mem_nil⟩⟩⟩⟩⟩⟩)), List.forall_mem_cons.mpr ⟨
  (gs_if_ne dX12_griefs_35 rfl), List.forall_mem_cons.mpr ⟨
  (gs_goto dX12_griefs_38 rfl), List.forall_mem_cons.mpr ⟨
  (gs_iinc dX12_griefs_41), List.forall_mem_cons.mpr ⟨
  (gs_iload dX12_griefs_44), List.forall_mem_cons.mpr ⟨
  (gs_istore dX12_griefs_46), List.forall_mem_cons.mpr ⟨
  (gs_iinc dX12_griefs_48), List.forall_mem_cons.mpr ⟨
  (gs_goto dX12_griefs_51 rfl), List.forall_mem_cons.mpr ⟨
  (gs_aload_n dX12_griefs_54 rfl), List.forall_mem_cons.mpr ⟨
  (gs_gf (ref := "GriefCranesModel") dX12_griefs_55 (gx_mem 1005 (by decide +kernel) (by decide +kernel)) (Or.inl rfl) gf_12_8), List.forall_mem_cons.mpr ⟨
  (gs_iload_n dX12_griefs_58 rfl), List.forall_mem_cons.mpr ⟨
  (gs_iload_n dX12_griefs_59 rfl), List.forall_mem_cons.mpr ⟨
  (gs_iastore dX12_griefs_60), fun _ h => absurd h List.not_mem_nil⟩⟩⟩⟩⟩⟩⟩⟩⟩⟩⟩⟩⟩⟩⟩⟩⟩⟩⟩⟩⟩⟩⟩⟩⟩⟩⟩⟩⟩⟩⟩⟩
set_option maxRecDepth 20000 in
theorem kt_X12_griefs_1 (g : gx_T) : ∀ q ∈ k_X12_griefs_1, gx_E g gc_md RX12 cX12_griefs 7 (some .int) "griefs" q.1 q.2 := List.forall_mem_cons.mpr ⟨(gs_iload_n dX12_griefs_61 rfl), List.forall_mem_cons.mpr ⟨
  (gs_if_eq dX12_griefs_62 rfl), List.forall_mem_cons.mpr ⟨
  (gs_iload dX12_griefs_65), List.forall_mem_cons.mpr ⟨
  (gs_goto dX12_griefs_67 rfl), List.forall_mem_cons.mpr ⟨
  (gs_iload dX12_griefs_70), List.forall_mem_cons.mpr ⟨
  (gs_ri dX12_griefs_72), fun _ h => absurd h List.not_mem_nil⟩⟩⟩⟩⟩⟩
theorem kt_X12_griefs (g : gx_T) : ∀ q ∈ k_X12_griefs, gx_E g gc_md RX12 cX12_griefs 7 (some .int) "griefs" q.1 q.2 := List.forall_mem_append.mpr ⟨kt_X12_griefs_0 g, kt_X12_griefs_1 g⟩
