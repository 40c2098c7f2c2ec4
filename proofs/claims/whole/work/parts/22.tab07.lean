/-! decoded, and each instruction a row -/
set_option maxRecDepth 20000 in
theorem dX12_load_0 : decode cX12_load 0 = .ok (.aload_n 0, 1) := by decide +kernel
set_option maxRecDepth 20000 in
theorem dX12_load_1 : decode cX12_load 1 = .ok (.iload_n 1, 1) := by decide +kernel
set_option maxRecDepth 20000 in
theorem dX12_load_2 : decode cX12_load 2 = .ok (.invokevirtual 266, 3) := by decide +kernel
set_option maxRecDepth 20000 in
theorem dX12_load_5 : decode cX12_load 5 = .ok (.ifCond .ne 5, 3) := by decide +kernel
set_option maxRecDepth 20000 in
theorem dX12_load_8 : decode cX12_load 8 = .ok (.iconst (-1), 1) := by decide +kernel
set_option maxRecDepth 20000 in
theorem dX12_load_9 : decode cX12_load 9 = .ok (.ireturn, 1) := by decide +kernel
set_option maxRecDepth 20000 in
theorem dX12_load_10 : decode cX12_load 10 = .ok (.iload_n 2, 1) := by decide +kernel
set_option maxRecDepth 20000 in
theorem dX12_load_11 : decode cX12_load 11 = .ok (.tableswitch 110 0 8 #[49, 56, 63, 70, 77, 84, 90, 96, 103], 49) := by decide +kernel
set_option maxRecDepth 20000 in
theorem dX12_load_60 : decode cX12_load 60 = .ok (.aload_n 0, 1) := by decide +kernel
set_option maxRecDepth 20000 in
theorem dX12_load_61 : decode cX12_load 61 = .ok (.getfield 35, 3) := by decide +kernel
set_option maxRecDepth 20000 in
theorem dX12_load_64 : decode cX12_load 64 = .ok (.iload_n 1, 1) := by decide +kernel
set_option maxRecDepth 20000 in
theorem dX12_load_65 : decode cX12_load 65 = .ok (.iaload, 1) := by decide +kernel
set_option maxRecDepth 20000 in
theorem dX12_load_66 : decode cX12_load 66 = .ok (.ireturn, 1) := by decide +kernel
set_option maxRecDepth 20000 in
theorem dX12_load_67 : decode cX12_load 67 = .ok (.aload_n 0, 1) := by decide +kernel
set_option maxRecDepth 20000 in
theorem dX12_load_68 : decode cX12_load 68 = .ok (.getfield 38, 3) := by decide +kernel
set_option maxRecDepth 20000 in
theorem dX12_load_71 : decode cX12_load 71 = .ok (.iload_n 1, 1) := by decide +kernel
set_option maxRecDepth 20000 in
theorem dX12_load_72 : decode cX12_load 72 = .ok (.iaload, 1) := by decide +kernel
set_option maxRecDepth 20000 in
theorem dX12_load_73 : decode cX12_load 73 = .ok (.ireturn, 1) := by decide +kernel
set_option maxRecDepth 20000 in
theorem dX12_load_74 : decode cX12_load 74 = .ok (.aload_n 0, 1) := by decide +kernel
set_option maxRecDepth 20000 in
theorem dX12_load_75 : decode cX12_load 75 = .ok (.getfield 41, 3) := by decide +kernel
set_option maxRecDepth 20000 in
theorem dX12_load_78 : decode cX12_load 78 = .ok (.iload_n 1, 1) := by decide +kernel
set_option maxRecDepth 20000 in
theorem dX12_load_79 : decode cX12_load 79 = .ok (.iaload, 1) := by decide +kernel
set_option maxRecDepth 20000 in
theorem dX12_load_80 : decode cX12_load 80 = .ok (.ireturn, 1) := by decide +kernel
set_option maxRecDepth 20000 in
theorem dX12_load_81 : decode cX12_load 81 = .ok (.aload_n 0, 1) := by decide +kernel
set_option maxRecDepth 20000 in
theorem dX12_load_82 : decode cX12_load 82 = .ok (.getfield 44, 3) := by decide +kernel
set_option maxRecDepth 20000 in
theorem dX12_load_85 : decode cX12_load 85 = .ok (.iload_n 1, 1) := by decide +kernel
set_option maxRecDepth 20000 in
theorem dX12_load_86 : decode cX12_load 86 = .ok (.iaload, 1) := by decide +kernel
set_option maxRecDepth 20000 in
theorem dX12_load_87 : decode cX12_load 87 = .ok (.ireturn, 1) := by decide +kernel
set_option maxRecDepth 20000 in
theorem dX12_load_88 : decode cX12_load 88 = .ok (.aload_n 0, 1) := by decide +kernel
set_option maxRecDepth 20000 in
theorem dX12_load_89 : decode cX12_load 89 = .ok (.getfield 47, 3) := by decide +kernel
set_option maxRecDepth 20000 in
theorem dX12_load_92 : decode cX12_load 92 = .ok (.iload_n 1, 1) := by decide +kernel
set_option maxRecDepth 20000 in
theorem dX12_load_93 : decode cX12_load 93 = .ok (.iaload, 1) := by decide +kernel
set_option maxRecDepth 20000 in
theorem dX12_load_94 : decode cX12_load 94 = .ok (.ireturn, 1) := by decide +kernel
set_option maxRecDepth 20000 in
theorem dX12_load_95 : decode cX12_load 95 = .ok (.aload_n 0, 1) := by decide +kernel
set_option maxRecDepth 20000 in
theorem dX12_load_96 : decode cX12_load 96 = .ok (.iload_n 1, 1) := by decide +kernel
set_option maxRecDepth 20000 in
theorem dX12_load_97 : decode cX12_load 97 = .ok (.invokevirtual 403, 3) := by decide +kernel
set_option maxRecDepth 20000 in
theorem dX12_load_100 : decode cX12_load 100 = .ok (.ireturn, 1) := by decide +kernel
set_option maxRecDepth 20000 in
theorem dX12_load_101 : decode cX12_load 101 = .ok (.aload_n 0, 1) := by decide +kernel
set_option maxRecDepth 20000 in
theorem dX12_load_102 : decode cX12_load 102 = .ok (.iload_n 1, 1) := by decide +kernel
set_option maxRecDepth 20000 in
theorem dX12_load_103 : decode cX12_load 103 = .ok (.invokevirtual 406, 3) := by decide +kernel
set_option maxRecDepth 20000 in
theorem dX12_load_106 : decode cX12_load 106 = .ok (.ireturn, 1) := by decide +kernel
set_option maxRecDepth 20000 in
theorem dX12_load_107 : decode cX12_load 107 = .ok (.aload_n 0, 1) := by decide +kernel
set_option maxRecDepth 20000 in
theorem dX12_load_108 : decode cX12_load 108 = .ok (.iload_n 1, 1) := by decide +kernel
set_option maxRecDepth 20000 in
theorem dX12_load_109 : decode cX12_load 109 = .ok (.iconst 1, 1) := by decide +kernel
set_option maxRecDepth 20000 in
theorem dX12_load_110 : decode cX12_load 110 = .ok (.invokevirtual 409, 3) := by decide +kernel
set_option maxRecDepth 20000 in
theorem dX12_load_113 : decode cX12_load 113 = .ok (.ireturn, 1) := by decide +kernel
set_option maxRecDepth 20000 in
theorem dX12_load_114 : decode cX12_load 114 = .ok (.aload_n 0, 1) := by decide +kernel
set_option maxRecDepth 20000 in
theorem dX12_load_115 : decode cX12_load 115 = .ok (.iload_n 1, 1) := by decide +kernel
set_option maxRecDepth 20000 in
theorem dX12_load_116 : decode cX12_load 116 = .ok (.iconst 0, 1) := by decide +kernel
set_option maxRecDepth 20000 in
theorem dX12_load_117 : decode cX12_load 117 = .ok (.invokevirtual 409, 3) := by decide +kernel
set_option maxRecDepth 20000 in
theorem dX12_load_120 : decode cX12_load 120 = .ok (.ireturn, 1) := by decide +kernel
set_option maxRecDepth 20000 in
theorem dX12_load_121 : decode cX12_load 121 = .ok (.iconst (-1), 1) := by decide +kernel
set_option maxRecDepth 20000 in
theorem dX12_load_122 : decode cX12_load 122 = .ok (.ireturn, 1) := by decide +kernel
set_option maxRecDepth 20000 in
theorem kt_X12_load_0 (g : gx_T) : ∀ q ∈ k_X12_load_0, gx_E g gc_md RX12 cX12_load 3 (some .int) "load" q.1 q.2 := List.forall_mem_cons.mpr ⟨(gs_aload_n dX12_load_0 rfl), List.forall_mem_cons.mpr ⟨
  (gs_iload_n dX12_load_1 rfl), List.forall_mem_cons.mpr ⟨
  (gs_cv dX12_load_2 (fun q hq => by
      simp only [List.mem_cons, List.not_mem_nil, or_false] at hq
      subst hq
      exact Or.inl ⟨_, rfl, by decide, by decide +kernel, by decide +kernel, List.forall_mem_cons.mpr ⟨gx_mem 1260 (by decide +kernel) (by decide +kernel), List.forall_mem_cons.mpr ⟨gx_mem 1262 (by decide +kernel) (by decide +kernel), List.forall_mem_cons.mpr ⟨gx_mem 24 (by decide +kernel) (by decide +kernel), List.forall_mem_cons.mpr ⟨gx_mem 96 (by decide +kernel) (by decide +kernel), List.forall_mem_cons.mpr ⟨cw_1263, fun _ h => absurd h List.not_mem_nil⟩⟩⟩⟩⟩⟩)), List.forall_mem_cons.mpr ⟨
  (gs_if_ne dX12_load_5 rfl), List.forall_mem_cons.mpr ⟨
  (gs_iconst dX12_load_8 rfl), List.forall_mem_cons.mpr ⟨
  (gs_ri dX12_load_9), List.forall_mem_cons.mpr ⟨
  (gs_iload_n dX12_load_10 rfl), List.forall_mem_cons.mpr ⟨
  (gs_tsw (lo := 0) (offs := [49, 56, 63, 70, 77, 84, 90, 96, 103]) dX12_load_11 (by decide +kernel) (by decide +kernel)), List.forall_mem_cons.mpr ⟨
  (gs_aload_n dX12_load_60 rfl), List.forall_mem_cons.mpr ⟨
  (gs_gf (ref := "GriefCranesModel") dX12_load_61 (gx_mem 1005 (by decide +kernel) (by decide +kernel)) (Or.inl rfl) gf_12_8), List.forall_mem_cons.mpr ⟨
  (gs_iload_n dX12_load_64 rfl), List.forall_mem_cons.mpr ⟨
  (gs_iaload dX12_load_65), List.forall_mem_cons.mpr ⟨
  (gs_ri dX12_load_66), List.forall_mem_cons.mpr ⟨
  (gs_aload_n dX12_load_67 rfl), List.forall_mem_cons.mpr ⟨
  (gs_gf (ref := "GriefCranesModel") dX12_load_68 (gx_mem 1006 (by decide +kernel) (by decide +kernel)) (Or.inl rfl) gf_12_9), List.forall_mem_cons.mpr ⟨
  (gs_iload_n dX12_load_71 rfl), List.forall_mem_cons.mpr ⟨
  (gs_iaload dX12_load_72), List.forall_mem_cons.mpr ⟨
  (gs_ri dX12_load_73), List.forall_mem_cons.mpr ⟨
  (gs_aload_n dX12_load_74 rfl), List.forall_mem_cons.mpr ⟨
  (gs_gf (ref := "GriefCranesModel") dX12_load_75 (gx_mem 1007 (by decide +kernel) (by decide +kernel)) (Or.inl rfl) gf_12_10), List.forall_mem_cons.mpr ⟨
  (gs_iload_n dX12_load_78 rfl), List.forall_mem_cons.mpr ⟨
  (gs_iaload dX12_load_79), List.forall_mem_cons.mpr ⟨
  (gs_ri dX12_load_80), List.forall_mem_cons.mpr ⟨
  (gs_aload_n dX12_load_81 rfl), List.forall_mem_cons.mpr ⟨
  (gs_gf (ref := "GriefCranesModel") dX12_load_82 (gx_mem 1008 (by decide +kernel) (by decide +kernel)) (Or.inl rfl) gf_12_11), List.forall_mem_cons.mpr ⟨
  (gs_iload_n dX12_load_85 rfl), List.forall_mem_cons.mpr ⟨
  (gs_iaload dX12_load_86), List.forall_mem_cons.mpr ⟨
  (gs_ri dX12_load_87), List.forall_mem_cons.mpr ⟨
  (gs_aload_n dX12_load_88 rfl), List.forall_mem_cons.mpr ⟨
  (gs_gf (ref := "GriefCranesModel") dX12_load_89 (gx_mem 1009 (by decide +kernel) (by decide +kernel)) (Or.inl rfl) gf_12_12), List.forall_mem_cons.mpr ⟨
  (gs_iload_n dX12_load_92 rfl), List.forall_mem_cons.mpr ⟨
  (gs_iaload dX12_load_93), fun _ h => absurd h List.not_mem_nil⟩⟩⟩⟩⟩⟩⟩⟩⟩⟩⟩⟩⟩⟩⟩⟩⟩⟩⟩⟩⟩⟩⟩⟩⟩⟩⟩⟩⟩⟩⟩⟩
set_option maxRecDepth 20000 in
theorem kt_X12_load_1 (g : gx_T) : ∀ q ∈ k_X12_load_1, gx_E g gc_md RX12 cX12_load 3 (some .int) "load" q.1 q.2 := List.forall_mem_cons.mpr ⟨(gs_ri dX12_load_94), List.forall_mem_cons.mpr ⟨
  (gs_aload_n dX12_load_95 rfl), List.forall_mem_cons.mpr ⟨
  (gs_iload_n dX12_load_96 rfl), List.forall_mem_cons.mpr ⟨
  (gs_cv dX12_load_97 (fun q hq => by
      simp only [List.mem_cons, List.not_mem_nil, or_false] at hq
      subst hq
      exact Or.inl ⟨_, rfl, by decide, by decide +kernel, by decide +kernel, List.forall_mem_cons.mpr ⟨gx_mem 1470 (by decide +kernel) (by decide +kernel), List.forall_mem_cons.mpr ⟨gx_mem 1472 (by decide +kernel) (by decide +kernel), List.forall_mem_cons.mpr ⟨gx_mem 65 (by decide +kernel) (by decide +kernel), List.forall_mem_cons.mpr ⟨gx_mem 96 (by decide +kernel) (by decide +kernel), List.forall_mem_cons.mpr ⟨cw_1473, fun _ h => absurd h List.not_mem_nil⟩⟩⟩⟩⟩⟩)), List.forall_mem_cons.mpr ⟨
  (gs_ri dX12_load_100), List.forall_mem_cons.mpr ⟨
  (gs_aload_n dX12_load_101 rfl), List.forall_mem_cons.mpr ⟨
  (gs_iload_n dX12_load_102 rfl), List.forall_mem_cons.mpr ⟨
  (gs_cv dX12_load_103 (fun q hq => by
      simp only [List.mem_cons, List.not_mem_nil, or_false] at hq
      subst hq
      exact Or.inl ⟨_, rfl, by decide, by decide +kernel, by decide +kernel, List.forall_mem_cons.mpr ⟨gx_mem 1478 (by decide +kernel) (by decide +kernel), List.forall_mem_cons.mpr ⟨gx_mem 1480 (by decide +kernel) (by decide +kernel), List.forall_mem_cons.mpr ⟨gx_mem 67 (by decide +kernel) (by decide +kernel), List.forall_mem_cons.mpr ⟨gx_mem 96 (by decide +kernel) (by decide +kernel), List.forall_mem_cons.mpr ⟨cw_1481, fun _ h => absurd h List.not_mem_nil⟩⟩⟩⟩⟩⟩)), List.forall_mem_cons.mpr ⟨
  (gs_ri dX12_load_106), List.forall_mem_cons.mpr ⟨
  (gs_aload_n dX12_load_107 rfl), List.forall_mem_cons.mpr ⟨
  (gs_iload_n dX12_load_108 rfl), List.forall_mem_cons.mpr ⟨
  (gs_iconst dX12_load_109 rfl), List.forall_mem_cons.mpr ⟨
  (gs_cv dX12_load_110 (fun q hq => by
      simp only [List.mem_cons, List.not_mem_nil, or_false] at hq
      subst hq
      exact Or.inl ⟨_, rfl, by decide, by decide +kernel, by decide +kernel, List.forall_mem_cons.mpr ⟨gx_mem 1482 (by decide +kernel) (by decide +kernel), List.forall_mem_cons.mpr ⟨gx_mem 1484 (by decide +kernel) (by decide +kernel), List.forall_mem_cons.mpr ⟨gx_mem 68 (by decide +kernel) (by decide +kernel), List.forall_mem_cons.mpr ⟨gx_mem 96 (by decide +kernel) (by decide +kernel), List.forall_mem_cons.mpr ⟨cw_1485, fun _ h => absurd h List.not_mem_nil⟩⟩⟩⟩⟩⟩)), List.forall_mem_cons.mpr ⟨
  (gs_ri dX12_load_113), List.forall_mem_cons.mpr ⟨
  (gs_aload_n dX12_load_114 rfl), List.forall_mem_cons.mpr ⟨
  (gs_iload_n dX12_load_115 rfl), List.forall_mem_cons.mpr ⟨
  (gs_iconst dX12_load_116 rfl), List.forall_mem_cons.mpr ⟨
  (gs_cv dX12_load_117 (fun q hq => by
      simp only [List.mem_cons, List.not_mem_nil, or_false] at hq
      subst hq
      exact Or.inl ⟨_, rfl, by decide, by decide +kernel, by decide +kernel, List.forall_mem_cons.mpr ⟨gx_mem 1482 (by decide +kernel) (by decide +kernel), List.forall_mem_cons.mpr ⟨gx_mem 1484 (by decide +kernel) (by decide +kernel), List.forall_mem_cons.mpr ⟨gx_mem 68 (by decide +kernel) (by decide +kernel), List.forall_mem_cons.mpr ⟨gx_mem 96 (by decide +kernel) (by decide +kernel), List.forall_mem_cons.mpr ⟨cw_1485, fun _ h => absurd h List.not_mem_nil⟩⟩⟩⟩⟩⟩)), List.forall_mem_cons.mpr ⟨
  (gs_ri dX12_load_120), List.forall_mem_cons.mpr ⟨
  (gs_iconst dX12_load_121 rfl), List.forall_mem_cons.mpr ⟨
  (gs_ri dX12_load_122), fun _ h => absurd h List.not_mem_nil⟩⟩⟩⟩⟩⟩⟩⟩⟩⟩⟩⟩⟩⟩⟩⟩⟩⟩⟩⟩⟩
theorem kt_X12_load (g : gx_T) : ∀ q ∈ k_X12_load, gx_E g gc_md RX12 cX12_load 3 (some .int) "load" q.1 q.2 := List.forall_mem_append.mpr ⟨kt_X12_load_0 g, kt_X12_load_1 g⟩
set_option maxRecDepth 20000 in
theorem dX12_can_0 : decode cX12_can 0 = .ok (.aload_n 0, 1) := by decide +kernel
set_option maxRecDepth 20000 in
theorem dX12_can_1 : decode cX12_can 1 = .ok (.iload_n 1, 1) := by decide +kernel
set_option maxRecDepth 20000 in
theorem dX12_can_2 : decode cX12_can 2 = .ok (.invokevirtual 259, 3) := by decide +kernel
set_option maxRecDepth 20000 in
theorem dX12_can_5 : decode cX12_can 5 = .ok (.ifCond .eq 13, 3) := by decide +kernel
set_option maxRecDepth 20000 in
theorem dX12_can_8 : decode cX12_can 8 = .ok (.aload_n 0, 1) := by decide +kernel
set_option maxRecDepth 20000 in
theorem dX12_can_9 : decode cX12_can 9 = .ok (.iload_n 2, 1) := by decide +kernel
set_option maxRecDepth 20000 in
theorem dX12_can_10 : decode cX12_can 10 = .ok (.iconst 0, 1) := by decide +kernel
set_option maxRecDepth 20000 in
theorem dX12_can_11 : decode cX12_can 11 = .ok (.iconst 1, 1) := by decide +kernel
set_option maxRecDepth 20000 in
theorem dX12_can_12 : decode cX12_can 12 = .ok (.invokevirtual 255, 3) := by decide +kernel
set_option maxRecDepth 20000 in
theorem dX12_can_15 : decode cX12_can 15 = .ok (.ifCond .ne 5, 3) := by decide +kernel
set_option maxRecDepth 20000 in
theorem dX12_can_18 : decode cX12_can 18 = .ok (.iconst (-1), 1) := by decide +kernel
set_option maxRecDepth 20000 in
theorem dX12_can_19 : decode cX12_can 19 = .ok (.ireturn, 1) := by decide +kernel
set_option maxRecDepth 20000 in
theorem dX12_can_20 : decode cX12_can 20 = .ok (.aload_n 0, 1) := by decide +kernel
set_option maxRecDepth 20000 in
theorem dX12_can_21 : decode cX12_can 21 = .ok (.getfield 26, 3) := by decide +kernel
set_option maxRecDepth 20000 in
theorem dX12_can_24 : decode cX12_can 24 = .ok (.iload_n 1, 1) := by decide +kernel
set_option maxRecDepth 20000 in
theorem dX12_can_25 : decode cX12_can 25 = .ok (.iaload, 1) := by decide +kernel
set_option maxRecDepth 20000 in
theorem dX12_can_26 : decode cX12_can 26 = .ok (.istore_n 3, 1) := by decide +kernel
set_option maxRecDepth 20000 in
theorem dX12_can_27 : decode cX12_can 27 = .ok (.iconst 0, 1) := by decide +kernel
set_option maxRecDepth 20000 in
theorem dX12_can_28 : decode cX12_can 28 = .ok (.istore 4, 2) := by decide +kernel
set_option maxRecDepth 20000 in
theorem dX12_can_30 : decode cX12_can 30 = .ok (.bipush (-5), 2) := by decide +kernel
set_option maxRecDepth 20000 in
theorem dX12_can_32 : decode cX12_can 32 = .ok (.istore 5, 2) := by decide +kernel
set_option maxRecDepth 20000 in
theorem dX12_can_34 : decode cX12_can 34 = .ok (.bipush 9, 2) := by decide +kernel
set_option maxRecDepth 20000 in
theorem dX12_can_36 : decode cX12_can 36 = .ok (.istore 6, 2) := by decide +kernel
set_option maxRecDepth 20000 in
theorem dX12_can_38 : decode cX12_can 38 = .ok (.iload 6, 2) := by decide +kernel
set_option maxRecDepth 20000 in
theorem dX12_can_40 : decode cX12_can 40 = .ok (.ifCond .lt 34, 3) := by decide +kernel
set_option maxRecDepth 20000 in
theorem dX12_can_43 : decode cX12_can 43 = .ok (.aload_n 0, 1) := by decide +kernel
set_option maxRecDepth 20000 in
theorem dX12_can_44 : decode cX12_can 44 = .ok (.getfield 26, 3) := by decide +kernel
set_option maxRecDepth 20000 in
theorem dX12_can_47 : decode cX12_can 47 = .ok (.iload_n 1, 1) := by decide +kernel
set_option maxRecDepth 20000 in
theorem dX12_can_48 : decode cX12_can 48 = .ok (.iload 6, 2) := by decide +kernel
set_option maxRecDepth 20000 in
theorem dX12_can_50 : decode cX12_can 50 = .ok (.iastore, 1) := by decide +kernel
set_option maxRecDepth 20000 in
theorem dX12_can_51 : decode cX12_can 51 = .ok (.aload_n 0, 1) := by decide +kernel
set_option maxRecDepth 20000 in
theorem dX12_can_52 : decode cX12_can 52 = .ok (.invokevirtual 400, 3) := by decide +kernel
set_option maxRecDepth 20000 in
theorem dX12_can_55 : decode cX12_can 55 = .ok (.ifCond .ne 6, 3) := by decide +kernel
set_option maxRecDepth 20000 in
theorem dX12_can_58 : decode cX12_can 58 = .ok (.goto 10, 3) := by decide +kernel
set_option maxRecDepth 20000 in
theorem dX12_can_61 : decode cX12_can 61 = .ok (.iinc 4 1, 3) := by decide +kernel
set_option maxRecDepth 20000 in
theorem dX12_can_64 : decode cX12_can 64 = .ok (.iload 6, 2) := by decide +kernel
set_option maxRecDepth 20000 in
theorem dX12_can_66 : decode cX12_can 66 = .ok (.istore 5, 2) := by decide +kernel
set_option maxRecDepth 20000 in
theorem dX12_can_68 : decode cX12_can 68 = .ok (.iinc 6 (-1), 3) := by decide +kernel
set_option maxRecDepth 20000 in
theorem dX12_can_71 : decode cX12_can 71 = .ok (.goto (-33), 3) := by decide +kernel
set_option maxRecDepth 20000 in
theorem dX12_can_74 : decode cX12_can 74 = .ok (.aload_n 0, 1) := by decide +kernel
set_option maxRecDepth 20000 in
theorem dX12_can_75 : decode cX12_can 75 = .ok (.getfield 26, 3) := by decide +kernel
set_option maxRecDepth 20000 in
theorem dX12_can_78 : decode cX12_can 78 = .ok (.iload_n 1, 1) := by decide +kernel
set_option maxRecDepth 20000 in
theorem dX12_can_79 : decode cX12_can 79 = .ok (.iload_n 3, 1) := by decide +kernel
set_option maxRecDepth 20000 in
theorem dX12_can_80 : decode cX12_can 80 = .ok (.iastore, 1) := by decide +kernel
set_option maxRecDepth 20000 in
theorem dX12_can_81 : decode cX12_can 81 = .ok (.iload_n 2, 1) := by decide +kernel
set_option maxRecDepth 20000 in
theorem dX12_can_82 : decode cX12_can 82 = .ok (.ifCond .ne 8, 3) := by decide +kernel
set_option maxRecDepth 20000 in
theorem dX12_can_85 : decode cX12_can 85 = .ok (.iload 4, 2) := by decide +kernel
set_option maxRecDepth 20000 in
theorem dX12_can_87 : decode cX12_can 87 = .ok (.goto 5, 3) := by decide +kernel
set_option maxRecDepth 20000 in
theorem dX12_can_90 : decode cX12_can 90 = .ok (.iload 5, 2) := by decide +kernel
set_option maxRecDepth 20000 in
theorem dX12_can_92 : decode cX12_can 92 = .ok (.ireturn, 1) := by decide +kernel
set_option maxRecDepth 20000 in
theorem kt_X12_can_0 (g : gx_T) : ∀ q ∈ k_X12_can_0, gx_E g gc_md RX12 cX12_can 7 (some .int) "can" q.1 q.2 := List.forall_mem_cons.mpr ⟨(gs_aload_n dX12_can_0 rfl), List.forall_mem_cons.mpr ⟨
  (gs_iload_n dX12_can_1 rfl), List.forall_mem_cons.mpr ⟨
  (gs_cv dX12_can_2 (fun q hq => by
      simp only [List.mem_cons, List.not_mem_nil, or_false] at hq
      subst hq
      exact Or.inl ⟨_, rfl, by decide, by decide +kernel, by decide +kernel, List.forall_mem_cons.mpr ⟨gx_mem 1248 (by decide +kernel) (by decide +kernel), List.forall_mem_cons.mpr ⟨gx_mem 1250 (by decide +kernel) (by decide +kernel), List.forall_mem_cons.mpr ⟨gx_mem 22 (by decide +kernel) (by decide +kernel), List.forall_mem_cons.mpr ⟨gx_mem 96 (by decide +kernel) (by decide +kernel), List.forall_mem_cons.mpr ⟨cw_1251, fun _ h => absurd h List.not_mem_nil⟩⟩⟩⟩⟩⟩)), List.forall_mem_cons.mpr ⟨
  (gs_if_eq dX12_can_5 rfl), List.forall_mem_cons.mpr ⟨
  (gs_aload_n dX12_can_8 rfl), List.forall_mem_cons.mpr ⟨
  (gs_iload_n dX12_can_9 rfl), List.forall_mem_cons.mpr ⟨
  (gs_iconst dX12_can_10 rfl), List.forall_mem_cons.mpr ⟨
  (gs_iconst dX12_can_11 rfl), List.forall_mem_cons.mpr ⟨
  (gs_cv dX12_can_12 (fun q hq => by
      simp only [List.mem_cons, List.not_mem_nil, or_false] at hq
      subst hq
      exact Or.inl ⟨_, rfl, by decide, by decide +kernel, by decide +kernel, List.forall_mem_cons.mpr ⟨gx_mem 1240 (by decide +kernel) (by decide +kernel), List.forall_mem_cons.mpr ⟨gx_mem 1242 (by decide +kernel) (by decide +kernel), List.forall_mem_cons.mpr ⟨gx_mem 21 (by decide +kernel) (by decide +kernel), List.forall_mem_cons.mpr ⟨gx_mem 96 (by decide +kernel) (by decide +kernel), List.forall_mem_cons.mpr ⟨cw_1243, fun _ h => absurd h List.not_mem_nil⟩⟩⟩⟩⟩⟩)), List.forall_mem_cons.mpr ⟨
  (gs_if_ne dX12_can_15 rfl), List.forall_mem_cons.mpr ⟨
  (gs_iconst dX12_can_18 rfl), List.forall_mem_cons.mpr ⟨
  (gs_ri dX12_can_19), List.forall_mem_cons.mpr ⟨
  (gs_aload_n dX12_can_20 rfl), List.forall_mem_cons.mpr ⟨
  (gs_gf (ref := "GriefCranesModel") dX12_can_21 (gx_mem 1002 (by decide +kernel) (by decide +kernel)) (Or.inl rfl) gf_12_5), List.forall_mem_cons.mpr ⟨
  (gs_iload_n dX12_can_24 rfl), List.forall_mem_cons.mpr ⟨
  (gs_iaload dX12_can_25), List.forall_mem_cons.mpr ⟨
  (gs_istore_n dX12_can_26 rfl), List.forall_mem_cons.mpr ⟨
  (gs_iconst dX12_can_27 rfl), List.forall_mem_cons.mpr ⟨
  (gs_istore dX12_can_28), List.forall_mem_cons.mpr ⟨
  (gs_bipush dX12_can_30 rfl), List.forall_mem_cons.mpr ⟨
  (gs_istore dX12_can_32), List.forall_mem_cons.mpr ⟨
  (gs_bipush dX12_can_34 rfl), List.forall_mem_cons.mpr ⟨
  (gs_istore dX12_can_36), List.forall_mem_cons.mpr ⟨
  (gs_iload dX12_can_38), List.forall_mem_cons.mpr ⟨
  (gs_if_lt dX12_can_40 rfl), List.forall_mem_cons.mpr ⟨
  (gs_aload_n dX12_can_43 rfl), List.forall_mem_cons.mpr ⟨
  (gs_gf (ref := "GriefCranesModel") dX12_can_44 (gx_mem 1002 (by decide +kernel) (by decide +kernel)) (Or.inl rfl) gf_12_5), List.forall_mem_cons.mpr ⟨
  (gs_iload_n dX12_can_47 rfl), List.forall_mem_cons.mpr ⟨
  (gs_iload dX12_can_48), List.forall_mem_cons.mpr ⟨
  (gs_iastore dX12_can_50), List.forall_mem_cons.mpr ⟨
  (gs_aload_n dX12_can_51 rfl), List.forall_mem_cons.mpr ⟨
  (gs_cv dX12_can_52 (fun q hq => by
      simp only [List.mem_cons, List.not_mem_nil, or_false] at hq
      subst hq
      exact Or.inl ⟨_, rfl, by decide, by decide +kernel, by decide +kernel, List.forall_mem_cons.mpr ⟨gx_mem 1486 (by decide +kernel) (by decide +kernel), List.forall_mem_cons.mpr ⟨gx_mem 1488 (by decide +kernel) (by decide +kernel), List.forall_mem_cons.mpr ⟨gx_mem 69 (by decide +kernel) (by decide +kernel), List.forall_mem_cons.mpr ⟨gx_mem 96 (by decide +kernel) (by decide +kernel), List.forall_mem_cons.mpr ⟨cw_1489, fun _ h => absurd h List.not_mem_nil⟩⟩⟩⟩⟩⟩)), fun _ h => absurd h List.not_mem_nil⟩⟩⟩⟩⟩⟩⟩⟩⟩⟩⟩⟩⟩⟩⟩⟩⟩⟩⟩⟩⟩⟩⟩⟩⟩⟩⟩⟩⟩⟩⟩⟩
set_option maxRecDepth 20000 in
theorem kt_X12_can_1 (g : gx_T) : ∀ q ∈ k_X12_can_1, gx_E g gc_md RX12 cX12_can 7 (some .int) "can" q.1 q.2 := List.forall_mem_cons.mpr ⟨(gs_if_ne dX12_can_55 rfl), List.forall_mem_cons.mpr ⟨
  (gs_goto dX12_can_58 rfl), List.forall_mem_cons.mpr ⟨
  (gs_iinc dX12_can_61), List.forall_mem_cons.mpr ⟨
  (gs_iload dX12_can_64), List.forall_mem_cons.mpr ⟨
  (gs_istore dX12_can_66), List.forall_mem_cons.mpr ⟨
  (gs_iinc dX12_can_68), List.forall_mem_cons.mpr ⟨
  (gs_goto dX12_can_71 rfl), List.forall_mem_cons.mpr ⟨
  (gs_aload_n dX12_can_74 rfl), List.forall_mem_cons.mpr ⟨
  (gs_gf (ref := "GriefCranesModel") dX12_can_75 (gx_mem 1002 (by decide +kernel) (by decide +kernel)) (Or.inl rfl) gf_12_5), List.forall_mem_cons.mpr ⟨
  (gs_iload_n dX12_can_78 rfl), List.forall_mem_cons.mpr ⟨
  (gs_iload_n dX12_can_79 rfl), List.forall_mem_cons.mpr ⟨
  (gs_iastore dX12_can_80), List.forall_mem_cons.mpr ⟨
  (gs_iload_n dX12_can_81 rfl), List.forall_mem_cons.mpr ⟨
  (gs_if_ne dX12_can_82 rfl), List.forall_mem_cons.mpr ⟨
  (gs_iload dX12_can_85), List.forall_mem_cons.mpr ⟨
  (gs_goto dX12_can_87 rfl), List.forall_mem_cons.mpr ⟨
  (gs_iload dX12_can_90), List.forall_mem_cons.mpr ⟨
  (gs_ri dX12_can_92), fun _ h => absurd h List.not_mem_nil⟩⟩⟩⟩⟩⟩⟩⟩⟩⟩⟩⟩⟩⟩⟩⟩⟩⟩
theorem kt_X12_can (g : gx_T) : ∀ q ∈ k_X12_can, gx_E g gc_md RX12 cX12_can 7 (some .int) "can" q.1 q.2 := List.forall_mem_append.mpr ⟨kt_X12_can_0 g, kt_X12_can_1 g⟩
set_option maxRecDepth 20000 in
theorem dX12_divisor_0 : decode cX12_divisor 0 = .ok (.iload_n 1, 1) := by decide +kernel
set_option maxRecDepth 20000 in
theorem dX12_divisor_1 : decode cX12_divisor 1 = .ok (.istore_n 3, 1) := by decide +kernel
set_option maxRecDepth 20000 in
theorem dX12_divisor_2 : decode cX12_divisor 2 = .ok (.iload_n 2, 1) := by decide +kernel
set_option maxRecDepth 20000 in
theorem dX12_divisor_3 : decode cX12_divisor 3 = .ok (.istore 4, 2) := by decide +kernel
set_option maxRecDepth 20000 in
theorem dX12_divisor_5 : decode cX12_divisor 5 = .ok (.iload 4, 2) := by decide +kernel
set_option maxRecDepth 20000 in
theorem dX12_divisor_7 : decode cX12_divisor 7 = .ok (.ifCond .eq 19, 3) := by decide +kernel
set_option maxRecDepth 20000 in
theorem dX12_divisor_10 : decode cX12_divisor 10 = .ok (.iload_n 3, 1) := by decide +kernel
set_option maxRecDepth 20000 in
theorem dX12_divisor_11 : decode cX12_divisor 11 = .ok (.iload 4, 2) := by decide +kernel
set_option maxRecDepth 20000 in
theorem dX12_divisor_13 : decode cX12_divisor 13 = .ok (.irem, 1) := by decide +kernel
set_option maxRecDepth 20000 in
theorem dX12_divisor_14 : decode cX12_divisor 14 = .ok (.istore 5, 2) := by decide +kernel
set_option maxRecDepth 20000 in
theorem dX12_divisor_16 : decode cX12_divisor 16 = .ok (.iload 4, 2) := by decide +kernel
set_option maxRecDepth 20000 in
theorem dX12_divisor_18 : decode cX12_divisor 18 = .ok (.istore_n 3, 1) := by decide +kernel
set_option maxRecDepth 20000 in
theorem dX12_divisor_19 : decode cX12_divisor 19 = .ok (.iload 5, 2) := by decide +kernel
set_option maxRecDepth 20000 in
theorem dX12_divisor_21 : decode cX12_divisor 21 = .ok (.istore 4, 2) := by decide +kernel
set_option maxRecDepth 20000 in
theorem dX12_divisor_23 : decode cX12_divisor 23 = .ok (.goto (-18), 3) := by decide +kernel
set_option maxRecDepth 20000 in
theorem dX12_divisor_26 : decode cX12_divisor 26 = .ok (.iload_n 3, 1) := by decide +kernel
set_option maxRecDepth 20000 in
theorem dX12_divisor_27 : decode cX12_divisor 27 = .ok (.ireturn, 1) := by decide +kernel
set_option maxRecDepth 20000 in
theorem kt_X12_divisor_0 (g : gx_T) : ∀ q ∈ k_X12_divisor_0, gx_E g gc_md RX12 cX12_divisor 6 (some .int) "divisor" q.1 q.2 := List.forall_mem_cons.mpr ⟨(gs_iload_n dX12_divisor_0 rfl), List.forall_mem_cons.mpr ⟨
  (gs_istore_n dX12_divisor_1 rfl), List.forall_mem_cons.mpr ⟨
  (gs_iload_n dX12_divisor_2 rfl), List.forall_mem_cons.mpr ⟨
  (gs_istore dX12_divisor_3), List.forall_mem_cons.mpr ⟨
  (gs_iload dX12_divisor_5), List.forall_mem_cons.mpr ⟨
  (gs_if_eq dX12_divisor_7 rfl), List.forall_mem_cons.mpr ⟨
  (gs_iload_n dX12_divisor_10 rfl), List.forall_mem_cons.mpr ⟨
  (gs_iload dX12_divisor_11), List.forall_mem_cons.mpr ⟨
  (gs_irem dX12_divisor_13), List.forall_mem_cons.mpr ⟨
  (gs_istore dX12_divisor_14), List.forall_mem_cons.mpr ⟨
  (gs_iload dX12_divisor_16), List.forall_mem_cons.mpr ⟨
  (gs_istore_n dX12_divisor_18 rfl), List.forall_mem_cons.mpr ⟨
  (gs_iload dX12_divisor_19), List.forall_mem_cons.mpr ⟨
  (gs_istore dX12_divisor_21), List.forall_mem_cons.mpr ⟨
  (gs_goto dX12_divisor_23 rfl), List.forall_mem_cons.mpr ⟨
  (gs_iload_n dX12_divisor_26 rfl), List.forall_mem_cons.mpr ⟨
  (gs_ri dX12_divisor_27), fun _ h => absurd h List.not_mem_nil⟩⟩⟩⟩⟩⟩⟩⟩⟩⟩⟩⟩⟩⟩⟩⟩⟩
theorem kt_X12_divisor (g : gx_T) : ∀ q ∈ k_X12_divisor, gx_E g gc_md RX12 cX12_divisor 6 (some .int) "divisor" q.1 q.2 := kt_X12_divisor_0 g
set_option maxRecDepth 20000 in
theorem dX12_lowest_0 : decode cX12_lowest 0 = .ok (.aload_n 0, 1) := by decide +kernel
set_option maxRecDepth 20000 in
theorem dX12_lowest_1 : decode cX12_lowest 1 = .ok (.iload_n 1, 1) := by decide +kernel
set_option maxRecDepth 20000 in
theorem dX12_lowest_2 : decode cX12_lowest 2 = .ok (.iload_n 2, 1) := by decide +kernel
set_option maxRecDepth 20000 in
theorem dX12_lowest_3 : decode cX12_lowest 3 = .ok (.invokevirtual 413, 3) := by decide +kernel
set_option maxRecDepth 20000 in
theorem dX12_lowest_6 : decode cX12_lowest 6 = .ok (.istore 4, 2) := by decide +kernel
set_option maxRecDepth 20000 in
theorem dX12_lowest_8 : decode cX12_lowest 8 = .ok (.iload_n 3, 1) := by decide +kernel
set_option maxRecDepth 20000 in
theorem dX12_lowest_9 : decode cX12_lowest 9 = .ok (.ifCond .ne 11, 3) := by decide +kernel
set_option maxRecDepth 20000 in
theorem dX12_lowest_12 : decode cX12_lowest 12 = .ok (.iload_n 1, 1) := by decide +kernel
set_option maxRecDepth 20000 in
theorem dX12_lowest_13 : decode cX12_lowest 13 = .ok (.iload 4, 2) := by decide +kernel
set_option maxRecDepth 20000 in
theorem dX12_lowest_15 : decode cX12_lowest 15 = .ok (.idiv, 1) := by decide +kernel
set_option maxRecDepth 20000 in
theorem dX12_lowest_16 : decode cX12_lowest 16 = .ok (.i2l, 1) := by decide +kernel
set_option maxRecDepth 20000 in
theorem dX12_lowest_17 : decode cX12_lowest 17 = .ok (.goto 8, 3) := by decide +kernel
set_option maxRecDepth 20000 in
theorem dX12_lowest_20 : decode cX12_lowest 20 = .ok (.iload_n 2, 1) := by decide +kernel
set_option maxRecDepth 20000 in
theorem dX12_lowest_21 : decode cX12_lowest 21 = .ok (.iload 4, 2) := by decide +kernel
set_option maxRecDepth 20000 in
theorem dX12_lowest_23 : decode cX12_lowest 23 = .ok (.idiv, 1) := by decide +kernel
set_option maxRecDepth 20000 in
theorem dX12_lowest_24 : decode cX12_lowest 24 = .ok (.i2l, 1) := by decide +kernel
set_option maxRecDepth 20000 in
theorem dX12_lowest_25 : decode cX12_lowest 25 = .ok (.lreturn, 1) := by decide +kernel
set_option maxRecDepth 20000 in
theorem kt_X12_lowest_0 (g : gx_T) : ∀ q ∈ k_X12_lowest_0, gx_E g gc_md RX12 cX12_lowest 5 (some .long) "lowest" q.1 q.2 := List.forall_mem_cons.mpr ⟨(gs_aload_n dX12_lowest_0 rfl), List.forall_mem_cons.mpr ⟨
  (gs_iload_n dX12_lowest_1 rfl), List.forall_mem_cons.mpr ⟨
  (gs_iload_n dX12_lowest_2 rfl), List.forall_mem_cons.mpr ⟨
  (gs_cv dX12_lowest_3 (fun q hq => by
      simp only [List.mem_cons, List.not_mem_nil, or_false] at hq
      subst hq
      exact Or.inl ⟨_, rfl, by decide, by decide +kernel, by decide +kernel, List.forall_mem_cons.mpr ⟨gx_mem 1503 (by decide +kernel) (by decide +kernel), List.forall_mem_cons.mpr ⟨gx_mem 1505 (by decide +kernel) (by decide +kernel), List.forall_mem_cons.mpr ⟨gx_mem 71 (by decide +kernel) (by decide +kernel), List.forall_mem_cons.mpr ⟨gx_mem 96 (by decide +kernel) (by decide +kernel), List.forall_mem_cons.mpr ⟨cw_1506, fun _ h => absurd h List.not_mem_nil⟩⟩⟩⟩⟩⟩)), List.forall_mem_cons.mpr ⟨
  (gs_istore dX12_lowest_6), List.forall_mem_cons.mpr ⟨
  (gs_iload_n dX12_lowest_8 rfl), List.forall_mem_cons.mpr ⟨
  (gs_if_ne dX12_lowest_9 rfl), List.forall_mem_cons.mpr ⟨
  (gs_iload_n dX12_lowest_12 rfl), List.forall_mem_cons.mpr ⟨
  (gs_iload dX12_lowest_13), List.forall_mem_cons.mpr ⟨
  (gs_idiv dX12_lowest_15), List.forall_mem_cons.mpr ⟨
  (gs_i2l dX12_lowest_16), List.forall_mem_cons.mpr ⟨
  (gs_goto dX12_lowest_17 rfl), List.forall_mem_cons.mpr ⟨
  (gs_iload_n dX12_lowest_20 rfl), List.forall_mem_cons.mpr ⟨
  (gs_iload dX12_lowest_21), List.forall_mem_cons.mpr ⟨
  (gs_idiv dX12_lowest_23), List.forall_mem_cons.mpr ⟨
  (gs_i2l dX12_lowest_24), List.forall_mem_cons.mpr ⟨
  (gs_rl dX12_lowest_25), fun _ h => absurd h List.not_mem_nil⟩⟩⟩⟩⟩⟩⟩⟩⟩⟩⟩⟩⟩⟩⟩⟩⟩
theorem kt_X12_lowest (g : gx_T) : ∀ q ∈ k_X12_lowest, gx_E g gc_md RX12 cX12_lowest 5 (some .long) "lowest" q.1 q.2 := kt_X12_lowest_0 g
set_option maxRecDepth 20000 in
theorem dX12_odds_0 : decode cX12_odds 0 = .ok (.aload_n 0, 1) := by decide +kernel
set_option maxRecDepth 20000 in
theorem dX12_odds_1 : decode cX12_odds 1 = .ok (.iload_n 1, 1) := by decide +kernel
set_option maxRecDepth 20000 in
theorem dX12_odds_2 : decode cX12_odds 2 = .ok (.invokevirtual 266, 3) := by decide +kernel
set_option maxRecDepth 20000 in
theorem dX12_odds_5 : decode cX12_odds 5 = .ok (.ifCond .eq 24, 3) := by decide +kernel
set_option maxRecDepth 20000 in
theorem dX12_odds_8 : decode cX12_odds 8 = .ok (.aload_n 0, 1) := by decide +kernel
set_option maxRecDepth 20000 in
theorem dX12_odds_9 : decode cX12_odds 9 = .ok (.iload_n 2, 1) := by decide +kernel
set_option maxRecDepth 20000 in
theorem dX12_odds_10 : decode cX12_odds 10 = .ok (.iconst 1, 1) := by decide +kernel
set_option maxRecDepth 20000 in
theorem dX12_odds_11 : decode cX12_odds 11 = .ok (.bipush 20, 2) := by decide +kernel
set_option maxRecDepth 20000 in
theorem dX12_odds_13 : decode cX12_odds 13 = .ok (.invokevirtual 255, 3) := by decide +kernel
set_option maxRecDepth 20000 in
theorem dX12_odds_16 : decode cX12_odds 16 = .ok (.ifCond .eq 13, 3) := by decide +kernel
set_option maxRecDepth 20000 in
theorem dX12_odds_19 : decode cX12_odds 19 = .ok (.aload_n 0, 1) := by decide +kernel
set_option maxRecDepth 20000 in
theorem dX12_odds_20 : decode cX12_odds 20 = .ok (.iload_n 3, 1) := by decide +kernel
set_option maxRecDepth 20000 in
theorem dX12_odds_21 : decode cX12_odds 21 = .ok (.iconst 0, 1) := by decide +kernel
set_option maxRecDepth 20000 in
theorem dX12_odds_22 : decode cX12_odds 22 = .ok (.iconst 1, 1) := by decide +kernel
set_option maxRecDepth 20000 in
theorem dX12_odds_23 : decode cX12_odds 23 = .ok (.invokevirtual 255, 3) := by decide +kernel
set_option maxRecDepth 20000 in
theorem dX12_odds_26 : decode cX12_odds 26 = .ok (.ifCond .ne 7, 3) := by decide +kernel
set_option maxRecDepth 20000 in
theorem dX12_odds_29 : decode cX12_odds 29 = .ok (.ldc2_w 416, 3) := by decide +kernel
set_option maxRecDepth 20000 in
theorem dX12_odds_32 : decode cX12_odds 32 = .ok (.lreturn, 1) := by decide +kernel
set_option maxRecDepth 20000 in
theorem dX12_odds_33 : decode cX12_odds 33 = .ok (.aload_n 0, 1) := by decide +kernel
set_option maxRecDepth 20000 in
theorem dX12_odds_34 : decode cX12_odds 34 = .ok (.getfield 16, 3) := by decide +kernel
set_option maxRecDepth 20000 in
theorem dX12_odds_37 : decode cX12_odds 37 = .ok (.iconst 4, 1) := by decide +kernel
set_option maxRecDepth 20000 in
theorem dX12_odds_38 : decode cX12_odds 38 = .ok (.irem, 1) := by decide +kernel
set_option maxRecDepth 20000 in
theorem dX12_odds_39 : decode cX12_odds 39 = .ok (.istore 4, 2) := by decide +kernel
set_option maxRecDepth 20000 in
theorem dX12_odds_41 : decode cX12_odds 41 = .ok (.aload_n 0, 1) := by decide +kernel
set_option maxRecDepth 20000 in
theorem dX12_odds_42 : decode cX12_odds 42 = .ok (.getfield 19, 3) := by decide +kernel
set_option maxRecDepth 20000 in
theorem dX12_odds_45 : decode cX12_odds 45 = .ok (.iload 4, 2) := by decide +kernel
set_option maxRecDepth 20000 in
theorem dX12_odds_47 : decode cX12_odds 47 = .ok (.iaload, 1) := by decide +kernel
set_option maxRecDepth 20000 in
theorem dX12_odds_48 : decode cX12_odds 48 = .ok (.istore 5, 2) := by decide +kernel
set_option maxRecDepth 20000 in
theorem dX12_odds_50 : decode cX12_odds 50 = .ok (.iconst 0, 1) := by decide +kernel
set_option maxRecDepth 20000 in
theorem dX12_odds_51 : decode cX12_odds 51 = .ok (.istore 6, 2) := by decide +kernel
set_option maxRecDepth 20000 in
theorem dX12_odds_53 : decode cX12_odds 53 = .ok (.iconst 0, 1) := by decide +kernel
set_option maxRecDepth 20000 in
theorem dX12_odds_54 : decode cX12_odds 54 = .ok (.istore 7, 2) := by decide +kernel
set_option maxRecDepth 20000 in
theorem dX12_odds_56 : decode cX12_odds 56 = .ok (.iload 7, 2) := by decide +kernel
set_option maxRecDepth 20000 in
theorem dX12_odds_58 : decode cX12_odds 58 = .ok (.bipush 10, 2) := by decide +kernel
set_option maxRecDepth 20000 in
theorem dX12_odds_60 : decode cX12_odds 60 = .ok (.if_icmp .ge 51, 3) := by decide +kernel
set_option maxRecDepth 20000 in
theorem dX12_odds_63 : decode cX12_odds 63 = .ok (.aload_n 0, 1) := by decide +kernel
set_option maxRecDepth 20000 in
theorem dX12_odds_64 : decode cX12_odds 64 = .ok (.invokevirtual 370, 3) := by decide +kernel
set_option maxRecDepth 20000 in
theorem dX12_odds_67 : decode cX12_odds 67 = .ok (.aload_n 0, 1) := by decide +kernel
set_option maxRecDepth 20000 in
theorem dX12_odds_68 : decode cX12_odds 68 = .ok (.getfield 19, 3) := by decide +kernel
set_option maxRecDepth 20000 in
theorem dX12_odds_71 : decode cX12_odds 71 = .ok (.iload 4, 2) := by decide +kernel
set_option maxRecDepth 20000 in
theorem dX12_odds_73 : decode cX12_odds 73 = .ok (.iload 7, 2) := by decide +kernel
set_option maxRecDepth 20000 in
theorem dX12_odds_75 : decode cX12_odds 75 = .ok (.iastore, 1) := by decide +kernel
set_option maxRecDepth 20000 in
theorem dX12_odds_76 : decode cX12_odds 76 = .ok (.aload_n 0, 1) := by decide +kernel
set_option maxRecDepth 20000 in
theorem dX12_odds_77 : decode cX12_odds 77 = .ok (.iload_n 2, 1) := by decide +kernel
set_option maxRecDepth 20000 in
theorem dX12_odds_78 : decode cX12_odds 78 = .ok (.invokevirtual 366, 3) := by decide +kernel
set_option maxRecDepth 20000 in
theorem dX12_odds_81 : decode cX12_odds 81 = .ok (.iload 6, 2) := by decide +kernel
set_option maxRecDepth 20000 in
theorem dX12_odds_83 : decode cX12_odds 83 = .ok (.aload_n 0, 1) := by decide +kernel
set_option maxRecDepth 20000 in
theorem dX12_odds_84 : decode cX12_odds 84 = .ok (.getfield 41, 3) := by decide +kernel
set_option maxRecDepth 20000 in
theorem dX12_odds_87 : decode cX12_odds 87 = .ok (.iload_n 1, 1) := by decide +kernel
set_option maxRecDepth 20000 in
theorem dX12_odds_88 : decode cX12_odds 88 = .ok (.iaload, 1) := by decide +kernel
set_option maxRecDepth 20000 in
theorem dX12_odds_89 : decode cX12_odds 89 = .ok (.iconst 2, 1) := by decide +kernel
set_option maxRecDepth 20000 in
theorem dX12_odds_90 : decode cX12_odds 90 = .ok (.if_icmp .ne 7, 3) := by decide +kernel
set_option maxRecDepth 20000 in
theorem dX12_odds_93 : decode cX12_odds 93 = .ok (.iconst 1, 1) := by decide +kernel
set_option maxRecDepth 20000 in
theorem dX12_odds_94 : decode cX12_odds 94 = .ok (.goto 4, 3) := by decide +kernel
set_option maxRecDepth 20000 in
theorem dX12_odds_97 : decode cX12_odds 97 = .ok (.iconst 0, 1) := by decide +kernel
set_option maxRecDepth 20000 in
theorem dX12_odds_98 : decode cX12_odds 98 = .ok (.iadd, 1) := by decide +kernel
set_option maxRecDepth 20000 in
theorem dX12_odds_99 : decode cX12_odds 99 = .ok (.istore 6, 2) := by decide +kernel
set_option maxRecDepth 20000 in
theorem dX12_odds_101 : decode cX12_odds 101 = .ok (.aload_n 0, 1) := by decide +kernel
set_option maxRecDepth 20000 in
theorem dX12_odds_102 : decode cX12_odds 102 = .ok (.invokevirtual 373, 3) := by decide +kernel
set_option maxRecDepth 20000 in
theorem dX12_odds_105 : decode cX12_odds 105 = .ok (.iinc 7 1, 3) := by decide +kernel
set_option maxRecDepth 20000 in
theorem dX12_odds_108 : decode cX12_odds 108 = .ok (.goto (-52), 3) := by decide +kernel
set_option maxRecDepth 20000 in
theorem dX12_odds_111 : decode cX12_odds 111 = .ok (.aload_n 0, 1) := by decide +kernel
set_option maxRecDepth 20000 in
theorem dX12_odds_112 : decode cX12_odds 112 = .ok (.getfield 19, 3) := by decide +kernel
set_option maxRecDepth 20000 in
theorem dX12_odds_115 : decode cX12_odds 115 = .ok (.iload 4, 2) := by decide +kernel
set_option maxRecDepth 20000 in
theorem dX12_odds_117 : decode cX12_odds 117 = .ok (.iload 5, 2) := by decide +kernel
set_option maxRecDepth 20000 in
theorem dX12_odds_119 : decode cX12_odds 119 = .ok (.iastore, 1) := by decide +kernel
set_option maxRecDepth 20000 in
theorem dX12_odds_120 : decode cX12_odds 120 = .ok (.aload_n 0, 1) := by decide +kernel
set_option maxRecDepth 20000 in
theorem dX12_odds_121 : decode cX12_odds 121 = .ok (.iload 6, 2) := by decide +kernel
set_option maxRecDepth 20000 in
theorem dX12_odds_123 : decode cX12_odds 123 = .ok (.bipush 10, 2) := by decide +kernel
set_option maxRecDepth 20000 in
theorem dX12_odds_125 : decode cX12_odds 125 = .ok (.iload_n 3, 1) := by decide +kernel
set_option maxRecDepth 20000 in
theorem dX12_odds_126 : decode cX12_odds 126 = .ok (.invokevirtual 418, 3) := by decide +kernel
set_option maxRecDepth 20000 in
theorem dX12_odds_129 : decode cX12_odds 129 = .ok (.lreturn, 1) := by decide +kernel
set_option maxRecDepth 20000 in
theorem kt_X12_odds_0 (g : gx_T) : ∀ q ∈ k_X12_odds_0, gx_E g gc_md RX12 cX12_odds 8 (some .long) "odds" q.1 q.2 := List.forall_mem_cons.mpr ⟨(gs_aload_n dX12_odds_0 rfl), List.forall_mem_cons.mpr ⟨
  (gs_iload_n dX12_odds_1 rfl), List.forall_mem_cons.mpr ⟨
  (gs_cv dX12_odds_2 (fun q hq => by
      simp only [List.mem_cons, List.not_mem_nil, or_false] at hq
      subst hq
      exact Or.inl ⟨_, rfl, by decide, by decide +kernel, by decide +kernel, List.forall_mem_cons.mpr ⟨gx_mem 1260 (by decide +kernel) (by decide +kernel), List.forall_mem_cons.mpr ⟨gx_mem 1262 (by decide +kernel) (by decide +kernel), List.forall_mem_cons.mpr ⟨gx_mem 24 (by decide +kernel) (by decide +kernel), List.forall_mem_cons.mpr ⟨gx_mem 96 (by decide +kernel) (by decide +kernel), List.forall_mem_cons.mpr ⟨cw_1263, fun _ h => absurd h List.not_mem_nil⟩⟩⟩⟩⟩⟩)), List.forall_mem_cons.mpr ⟨
  (gs_if_eq dX12_odds_5 rfl), List.forall_mem_cons.mpr ⟨
  (gs_aload_n dX12_odds_8 rfl), List.forall_mem_cons.mpr ⟨
  (gs_iload_n dX12_odds_9 rfl), List.forall_mem_cons.mpr ⟨
  (gs_iconst dX12_odds_10 rfl), List.forall_mem_cons.mpr ⟨
  (gs_bipush dX12_odds_11 rfl), List.forall_mem_cons.mpr ⟨
  (gs_cv dX12_odds_13 (fun q hq => by
      simp only [List.mem_cons, List.not_mem_nil, or_false] at hq
      subst hq
      exact Or.inl ⟨_, rfl, by decide, by decide +kernel, by decide +kernel, List.forall_mem_cons.mpr ⟨gx_mem 1240 (by decide +kernel) (by decide +kernel), List.forall_mem_cons.mpr ⟨gx_mem 1242 (by decide +kernel) (by decide +kernel), List.forall_mem_cons.mpr ⟨gx_mem 21 (by decide +kernel) (by decide +kernel), List.forall_mem_cons.mpr ⟨gx_mem 96 (by decide +kernel) (by decide +kernel), List.forall_mem_cons.mpr ⟨cw_1243, fun _ h => absurd h List.not_mem_nil⟩⟩⟩⟩⟩⟩)), List.forall_mem_cons.mpr ⟨
  (gs_if_eq dX12_odds_16 rfl), List.forall_mem_cons.mpr ⟨
  (gs_aload_n dX12_odds_19 rfl), List.forall_mem_cons.mpr ⟨
  (gs_iload_n dX12_odds_20 rfl), List.forall_mem_cons.mpr ⟨
  (gs_iconst dX12_odds_21 rfl), List.forall_mem_cons.mpr ⟨
  (gs_iconst dX12_odds_22 rfl), List.forall_mem_cons.mpr ⟨
  (gs_cv dX12_odds_23 (fun q hq => by
      simp only [List.mem_cons, List.not_mem_nil, or_false] at hq
      subst hq
      exact Or.inl ⟨_, rfl, by decide, by decide +kernel, by decide +kernel, List.forall_mem_cons.mpr ⟨gx_mem 1240 (by decide +kernel) (by decide +kernel), List.forall_mem_cons.mpr ⟨gx_mem 1242 (by decide +kernel) (by decide +kernel), List.forall_mem_cons.mpr ⟨gx_mem 21 (by decide +kernel) (by decide +kernel), List.forall_mem_cons.mpr ⟨gx_mem 96 (by decide +kernel) (by decide +kernel), List.forall_mem_cons.mpr ⟨cw_1243, fun _ h => absurd h List.not_mem_nil⟩⟩⟩⟩⟩⟩)), List.forall_mem_cons.mpr ⟨
  (gs_if_ne dX12_odds_26 rfl), List.forall_mem_cons.mpr ⟨
  (gs_ldc2 dX12_odds_29 (gx_mem 1498 (by decide +kernel) (by decide +kernel))), List.forall_mem_cons.mpr ⟨
  (gs_rl dX12_odds_32), List.forall_mem_cons.mpr ⟨
  (gs_aload_n dX12_odds_33 rfl), List.forall_mem_cons.mpr ⟨
  (gs_gf (ref := "GriefCranesModel") dX12_odds_34 (gx_mem 999 (by decide +kernel) (by decide +kernel)) (Or.inl rfl) gf_12_2), List.forall_mem_cons.mpr ⟨
  (gs_iconst dX12_odds_37 rfl), List.forall_mem_cons.mpr ⟨
  (gs_irem dX12_odds_38), List.forall_mem_cons.mpr ⟨
  (gs_istore dX12_odds_39), List.forall_mem_cons.mpr ⟨
  (gs_aload_n dX12_odds_41 rfl), List.forall_mem_cons.mpr ⟨
  (gs_gf (ref := "GriefCranesModel") dX12_odds_42 (gx_mem 1000 (by decide +kernel) (by decide +kernel)) (Or.inl rfl) gf_12_3), List.forall_mem_cons.mpr ⟨
  (gs_iload dX12_odds_45), List.forall_mem_cons.mpr ⟨
  (gs_iaload dX12_odds_47), List.forall_mem_cons.mpr ⟨
  (gs_istore dX12_odds_48), List.forall_mem_cons.mpr ⟨
  (gs_iconst dX12_odds_50 rfl), List.forall_mem_cons.mpr ⟨
  (gs_istore dX12_odds_51), List.forall_mem_cons.mpr ⟨
  (gs_iconst dX12_odds_53 rfl), List.forall_mem_cons.mpr ⟨
  (gs_istore dX12_odds_54), fun _ h => absurd h List.not_mem_nil⟩⟩⟩⟩⟩⟩⟩⟩⟩⟩⟩⟩⟩⟩⟩⟩⟩⟩⟩⟩⟩⟩⟩⟩⟩⟩⟩⟩⟩⟩⟩⟩
set_option maxRecDepth 20000 in
theorem kt_X12_odds_1 (g : gx_T) : ∀ q ∈ k_X12_odds_1, gx_E g gc_md RX12 cX12_odds 8 (some .long) "odds" q.1 q.2 := List.forall_mem_cons.mpr ⟨(gs_iload dX12_odds_56), List.forall_mem_cons.mpr ⟨
  (gs_bipush dX12_odds_58 rfl), List.forall_mem_cons.mpr ⟨
  (gs_icmp_ge dX12_odds_60 rfl), List.forall_mem_cons.mpr ⟨
  (gs_aload_n dX12_odds_63 rfl), List.forall_mem_cons.mpr ⟨
  (gs_cv dX12_odds_64 (fun q hq => by
      simp only [List.mem_cons, List.not_mem_nil, or_false] at hq
      subst hq
      exact Or.inl ⟨_, rfl, by decide, by decide +kernel, by decide +kernel, List.forall_mem_cons.mpr ⟨gx_mem 1424 (by decide +kernel) (by decide +kernel), List.forall_mem_cons.mpr ⟨gx_mem 1426 (by decide +kernel) (by decide +kernel), List.forall_mem_cons.mpr ⟨gx_mem 57 (by decide +kernel) (by decide +kernel), List.forall_mem_cons.mpr ⟨gx_mem 96 (by decide +kernel) (by decide +kernel), List.forall_mem_cons.mpr ⟨cw_1427, fun _ h => absurd h List.not_mem_nil⟩⟩⟩⟩⟩⟩)), List.forall_mem_cons.mpr ⟨
  (gs_aload_n dX12_odds_67 rfl), List.forall_mem_cons.mpr ⟨
  (gs_gf (ref := "GriefCranesModel") dX12_odds_68 (gx_mem 1000 (by decide +kernel) (by decide +kernel)) (Or.inl rfl) gf_12_3), List.forall_mem_cons.mpr ⟨
  (gs_iload dX12_odds_71), List.forall_mem_cons.mpr ⟨
  (gs_iload dX12_odds_73), List.forall_mem_cons.mpr ⟨
  (gs_iastore dX12_odds_75), List.forall_mem_cons.mpr ⟨
  (gs_aload_n dX12_odds_76 rfl), List.forall_mem_cons.mpr ⟨
  (gs_iload_n dX12_odds_77 rfl), List.forall_mem_cons.mpr ⟨
  (gs_cv dX12_odds_78 (fun q hq => by
      simp only [List.mem_cons, List.not_mem_nil, or_false] at hq
      subst hq
      exact Or.inl ⟨_, rfl, by decide, by decide +kernel, by decide +kernel, List.forall_mem_cons.mpr ⟨gx_mem 1384 (by decide +kernel) (by decide +kernel), List.forall_mem_cons.mpr ⟨gx_mem 1386 (by decide +kernel) (by decide +kernel), List.forall_mem_cons.mpr ⟨gx_mem 49 (by decide +kernel) (by decide +kernel), List.forall_mem_cons.mpr ⟨gx_mem 96 (by decide +kernel) (by decide +kernel), List.forall_mem_cons.mpr ⟨cw_1387, fun _ h => absurd h List.not_mem_nil⟩⟩⟩⟩⟩⟩)), List.forall_mem_cons.mpr ⟨
  (gs_iload dX12_odds_81), List.forall_mem_cons.mpr ⟨
  (gs_aload_n dX12_odds_83 rfl), List.forall_mem_cons.mpr ⟨
  (gs_gf (ref := "GriefCranesModel") dX12_odds_84 (gx_mem 1007 (by decide +kernel) (by decide +kernel)) (Or.inl rfl) gf_12_10), List.forall_mem_cons.mpr ⟨
  (gs_iload_n dX12_odds_87 rfl), List.forall_mem_cons.mpr ⟨
  (gs_iaload dX12_odds_88), List.forall_mem_cons.mpr ⟨
  (gs_iconst dX12_odds_89 rfl), List.forall_mem_cons.mpr ⟨
  (gs_icmp_ne dX12_odds_90 rfl), List.forall_mem_cons.mpr ⟨
  (gs_iconst dX12_odds_93 rfl), List.forall_mem_cons.mpr ⟨
  (gs_goto dX12_odds_94 rfl), List.forall_mem_cons.mpr ⟨
  (gs_iconst dX12_odds_97 rfl), List.forall_mem_cons.mpr ⟨
  (gs_iadd dX12_odds_98), List.forall_mem_cons.mpr ⟨
  (gs_istore dX12_odds_99), List.forall_mem_cons.mpr ⟨
  (gs_aload_n dX12_odds_101 rfl), List.forall_mem_cons.mpr ⟨
  (gs_cv dX12_odds_102 (fun q hq => by
      simp only [List.mem_cons, List.not_mem_nil, or_false] at hq
      subst hq
      exact Or.inl ⟨_, rfl, by decide, by decide +kernel, by decide +kernel, List.forall_mem_cons.mpr ⟨gx_mem 1437 (by decide +kernel) (by decide +kernel), List.forall_mem_cons.mpr ⟨gx_mem 1439 (by decide +kernel) (by decide +kernel), List.forall_mem_cons.mpr ⟨gx_mem 60 (by decide +kernel) (by decide +kernel), List.forall_mem_cons.mpr ⟨gx_mem 96 (by decide +kernel) (by decide +kernel), List.forall_mem_cons.mpr ⟨cw_1440, fun _ h => absurd h List.not_mem_nil⟩⟩⟩⟩⟩⟩)), List.forall_mem_cons.mpr ⟨
  (gs_iinc dX12_odds_105), List.forall_mem_cons.mpr ⟨
  (gs_goto dX12_odds_108 rfl), List.forall_mem_cons.mpr ⟨
  (gs_aload_n dX12_odds_111 rfl), List.forall_mem_cons.mpr ⟨
  (gs_gf (ref := "GriefCranesModel") dX12_odds_112 (gx_mem 1000 (by decide +kernel) (by decide +kernel)) (Or.inl rfl) gf_12_3), List.forall_mem_cons.mpr ⟨
  (gs_iload dX12_odds_115), fun _ h => absurd h List.not_mem_nil⟩⟩⟩⟩⟩⟩⟩⟩⟩⟩⟩⟩⟩⟩⟩⟩⟩⟩⟩⟩⟩⟩⟩⟩⟩⟩⟩⟩⟩⟩⟩⟩
set_option maxRecDepth 20000 in
theorem kt_X12_odds_2 (g : gx_T) : ∀ q ∈ k_X12_odds_2, gx_E g gc_md RX12 cX12_odds 8 (some .long) "odds" q.1 q.2 := List.forall_mem_cons.mpr ⟨(gs_iload dX12_odds_117), List.forall_mem_cons.mpr ⟨
  (gs_iastore dX12_odds_119), List.forall_mem_cons.mpr ⟨
  (gs_aload_n dX12_odds_120 rfl), List.forall_mem_cons.mpr ⟨
  (gs_iload dX12_odds_121), List.forall_mem_cons.mpr ⟨
  (gs_bipush dX12_odds_123 rfl), List.forall_mem_cons.mpr ⟨
  (gs_iload_n dX12_odds_125 rfl), List.forall_mem_cons.mpr ⟨
  (gs_cv dX12_odds_126 (fun q hq => by
      simp only [List.mem_cons, List.not_mem_nil, or_false] at hq
      subst hq
      exact Or.inl ⟨_, rfl, by decide, by decide +kernel, by decide +kernel, List.forall_mem_cons.mpr ⟨gx_mem 1499 (by decide +kernel) (by decide +kernel), List.forall_mem_cons.mpr ⟨gx_mem 1501 (by decide +kernel) (by decide +kernel), List.forall_mem_cons.mpr ⟨gx_mem 70 (by decide +kernel) (by decide +kernel), List.forall_mem_cons.mpr ⟨gx_mem 96 (by decide +kernel) (by decide +kernel), List.forall_mem_cons.mpr ⟨cw_1502, fun _ h => absurd h List.not_mem_nil⟩⟩⟩⟩⟩⟩)), List.forall_mem_cons.mpr ⟨
  (gs_rl dX12_odds_129), fun _ h => absurd h List.not_mem_nil⟩⟩⟩⟩⟩⟩⟩⟩
theorem kt_X12_odds (g : gx_T) : ∀ q ∈ k_X12_odds, gx_E g gc_md RX12 cX12_odds 8 (some .long) "odds" q.1 q.2 := List.forall_mem_append.mpr ⟨kt_X12_odds_0 g, List.forall_mem_append.mpr ⟨kt_X12_odds_1 g, kt_X12_odds_2 g⟩⟩
set_option maxRecDepth 20000 in
theorem dX12_mean_0 : decode cX12_mean 0 = .ok (.aload_n 0, 1) := by decide +kernel
set_option maxRecDepth 20000 in
theorem dX12_mean_1 : decode cX12_mean 1 = .ok (.aload_n 0, 1) := by decide +kernel
set_option maxRecDepth 20000 in
theorem dX12_mean_2 : decode cX12_mean 2 = .ok (.iconst 0, 1) := by decide +kernel
set_option maxRecDepth 20000 in
theorem dX12_mean_3 : decode cX12_mean 3 = .ok (.invokevirtual 379, 3) := by decide +kernel
set_option maxRecDepth 20000 in
theorem dX12_mean_6 : decode cX12_mean 6 = .ok (.invokevirtual 382, 3) := by decide +kernel
set_option maxRecDepth 20000 in
theorem dX12_mean_9 : decode cX12_mean 9 = .ok (.istore_n 2, 1) := by decide +kernel
set_option maxRecDepth 20000 in
theorem dX12_mean_10 : decode cX12_mean 10 = .ok (.aload_n 0, 1) := by decide +kernel
set_option maxRecDepth 20000 in
theorem dX12_mean_11 : decode cX12_mean 11 = .ok (.iload_n 1, 1) := by decide +kernel
set_option maxRecDepth 20000 in
theorem dX12_mean_12 : decode cX12_mean 12 = .ok (.iconst 0, 1) := by decide +kernel
set_option maxRecDepth 20000 in
theorem dX12_mean_13 : decode cX12_mean 13 = .ok (.iconst 1, 1) := by decide +kernel
set_option maxRecDepth 20000 in
theorem dX12_mean_14 : decode cX12_mean 14 = .ok (.invokevirtual 255, 3) := by decide +kernel
set_option maxRecDepth 20000 in
theorem dX12_mean_17 : decode cX12_mean 17 = .ok (.ifCond .eq 7, 3) := by decide +kernel
set_option maxRecDepth 20000 in
theorem dX12_mean_20 : decode cX12_mean 20 = .ok (.iload_n 2, 1) := by decide +kernel
set_option maxRecDepth 20000 in
theorem dX12_mean_21 : decode cX12_mean 21 = .ok (.ifCond .ne 7, 3) := by decide +kernel
set_option maxRecDepth 20000 in
theorem dX12_mean_24 : decode cX12_mean 24 = .ok (.ldc2_w 416, 3) := by decide +kernel
set_option maxRecDepth 20000 in
theorem dX12_mean_27 : decode cX12_mean 27 = .ok (.lreturn, 1) := by decide +kernel
set_option maxRecDepth 20000 in
theorem dX12_mean_28 : decode cX12_mean 28 = .ok (.iconst 0, 1) := by decide +kernel
set_option maxRecDepth 20000 in
theorem dX12_mean_29 : decode cX12_mean 29 = .ok (.istore_n 3, 1) := by decide +kernel
set_option maxRecDepth 20000 in
theorem dX12_mean_30 : decode cX12_mean 30 = .ok (.iconst 0, 1) := by decide +kernel
set_option maxRecDepth 20000 in
theorem dX12_mean_31 : decode cX12_mean 31 = .ok (.istore 4, 2) := by decide +kernel
set_option maxRecDepth 20000 in
theorem dX12_mean_33 : decode cX12_mean 33 = .ok (.iload 4, 2) := by decide +kernel
set_option maxRecDepth 20000 in
theorem dX12_mean_35 : decode cX12_mean 35 = .ok (.aload_n 0, 1) := by decide +kernel
set_option maxRecDepth 20000 in
theorem dX12_mean_36 : decode cX12_mean 36 = .ok (.getfield 13, 3) := by decide +kernel
set_option maxRecDepth 20000 in
theorem dX12_mean_39 : decode cX12_mean 39 = .ok (.if_icmp .ge 33, 3) := by decide +kernel
set_option maxRecDepth 20000 in
theorem dX12_mean_42 : decode cX12_mean 42 = .ok (.iload_n 3, 1) := by decide +kernel
set_option maxRecDepth 20000 in
theorem dX12_mean_43 : decode cX12_mean 43 = .ok (.aload_n 0, 1) := by decide +kernel
set_option maxRecDepth 20000 in
theorem dX12_mean_44 : decode cX12_mean 44 = .ok (.getfield 41, 3) := by decide +kernel
set_option maxRecDepth 20000 in
theorem dX12_mean_47 : decode cX12_mean 47 = .ok (.iload 4, 2) := by decide +kernel
set_option maxRecDepth 20000 in
theorem dX12_mean_49 : decode cX12_mean 49 = .ok (.iaload, 1) := by decide +kernel
set_option maxRecDepth 20000 in
theorem dX12_mean_50 : decode cX12_mean 50 = .ok (.ifCond .ne 13, 3) := by decide +kernel
set_option maxRecDepth 20000 in
theorem dX12_mean_53 : decode cX12_mean 53 = .ok (.aload_n 0, 1) := by decide +kernel
set_option maxRecDepth 20000 in
theorem dX12_mean_54 : decode cX12_mean 54 = .ok (.getfield 35, 3) := by decide +kernel
set_option maxRecDepth 20000 in
theorem dX12_mean_57 : decode cX12_mean 57 = .ok (.iload 4, 2) := by decide +kernel
set_option maxRecDepth 20000 in
theorem dX12_mean_59 : decode cX12_mean 59 = .ok (.iaload, 1) := by decide +kernel
set_option maxRecDepth 20000 in
theorem dX12_mean_60 : decode cX12_mean 60 = .ok (.goto 4, 3) := by decide +kernel
set_option maxRecDepth 20000 in
theorem dX12_mean_63 : decode cX12_mean 63 = .ok (.iconst 0, 1) := by decide +kernel
set_option maxRecDepth 20000 in
theorem dX12_mean_64 : decode cX12_mean 64 = .ok (.iadd, 1) := by decide +kernel
set_option maxRecDepth 20000 in
theorem dX12_mean_65 : decode cX12_mean 65 = .ok (.istore_n 3, 1) := by decide +kernel
set_option maxRecDepth 20000 in
theorem dX12_mean_66 : decode cX12_mean 66 = .ok (.iinc 4 1, 3) := by decide +kernel
set_option maxRecDepth 20000 in
theorem dX12_mean_69 : decode cX12_mean 69 = .ok (.goto (-36), 3) := by decide +kernel
set_option maxRecDepth 20000 in
theorem dX12_mean_72 : decode cX12_mean 72 = .ok (.aload_n 0, 1) := by decide +kernel
set_option maxRecDepth 20000 in
theorem dX12_mean_73 : decode cX12_mean 73 = .ok (.iload_n 3, 1) := by decide +kernel
set_option maxRecDepth 20000 in
theorem dX12_mean_74 : decode cX12_mean 74 = .ok (.iload_n 2, 1) := by decide +kernel
set_option maxRecDepth 20000 in
theorem dX12_mean_75 : decode cX12_mean 75 = .ok (.iload_n 1, 1) := by decide +kernel
set_option maxRecDepth 20000 in
theorem dX12_mean_76 : decode cX12_mean 76 = .ok (.invokevirtual 418, 3) := by decide +kernel
set_option maxRecDepth 20000 in
theorem dX12_mean_79 : decode cX12_mean 79 = .ok (.lreturn, 1) := by decide +kernel
set_option maxRecDepth 20000 in
theorem kt_X12_mean_0 (g : gx_T) : ∀ q ∈ k_X12_mean_0, gx_E g gc_md RX12 cX12_mean 5 (some .long) "mean" q.1 q.2 := List.forall_mem_cons.mpr ⟨(gs_aload_n dX12_mean_0 rfl), List.forall_mem_cons.mpr ⟨
  (gs_aload_n dX12_mean_1 rfl), List.forall_mem_cons.mpr ⟨
  (gs_iconst dX12_mean_2 rfl), List.forall_mem_cons.mpr ⟨
  (gs_cv dX12_mean_3 (fun q hq => by
      simp only [List.mem_cons, List.not_mem_nil, or_false] at hq
      subst hq
      exact Or.inl ⟨_, rfl, by decide, by decide +kernel, by decide +kernel, List.forall_mem_cons.mpr ⟨gx_mem 1416 (by decide +kernel) (by decide +kernel), List.forall_mem_cons.mpr ⟨gx_mem 1418 (by decide +kernel) (by decide +kernel), List.forall_mem_cons.mpr ⟨gx_mem 56 (by decide +kernel) (by decide +kernel), List.forall_mem_cons.mpr ⟨gx_mem 96 (by decide +kernel) (by decide +kernel), List.forall_mem_cons.mpr ⟨cw_1419, fun _ h => absurd h List.not_mem_nil⟩⟩⟩⟩⟩⟩)), List.forall_mem_cons.mpr ⟨
  (gs_cv dX12_mean_6 (fun q hq => by
      simp only [List.mem_cons, List.not_mem_nil, or_false] at hq
      subst hq
      exact Or.inl ⟨_, rfl, by decide, by decide +kernel, by decide +kernel, List.forall_mem_cons.mpr ⟨gx_mem 1429 (by decide +kernel) (by decide +kernel), List.forall_mem_cons.mpr ⟨gx_mem 1431 (by decide +kernel) (by decide +kernel), List.forall_mem_cons.mpr ⟨gx_mem 58 (by decide +kernel) (by decide +kernel), List.forall_mem_cons.mpr ⟨gx_mem 96 (by decide +kernel) (by decide +kernel), List.forall_mem_cons.mpr ⟨cw_1432, fun _ h => absurd h List.not_mem_nil⟩⟩⟩⟩⟩⟩)), List.forall_mem_cons.mpr ⟨
  (gs_istore_n dX12_mean_9 rfl), List.forall_mem_cons.mpr ⟨
  (gs_aload_n dX12_mean_10 rfl), List.forall_mem_cons.mpr ⟨
  (gs_iload_n dX12_mean_11 rfl), List.forall_mem_cons.mpr ⟨
  (gs_iconst dX12_mean_12 rfl), List.forall_mem_cons.mpr ⟨
  (gs_iconst dX12_mean_13 rfl), List.forall_mem_cons.mpr ⟨
  (gs_cv dX12_mean_14 (fun q hq => by
      simp only [List.mem_cons, List.not_mem_nil, or_false] at hq
      subst hq
      exact Or.inl ⟨_, rfl, by decide, by decide +kernel, by decide +kernel, List.forall_mem_cons.mpr ⟨gx_mem 1240 (by decide +kernel) (by decide +kernel), List.forall_mem_cons.mpr ⟨gx_mem 1242 (by decide +kernel) (by decide +kernel), List.forall_mem_cons.mpr ⟨gx_mem 21 (by decide +kernel) (by decide +kernel), List.forall_mem_cons.mpr ⟨gx_mem 96 (by decide +kernel) (by decide +kernel), List.forall_mem_cons.mpr ⟨cw_1243, fun _ h => absurd h List.not_mem_nil⟩⟩⟩⟩⟩⟩)), List.forall_mem_cons.mpr ⟨
  (gs_if_eq dX12_mean_17 rfl), List.forall_mem_cons.mpr ⟨
  (gs_iload_n dX12_mean_20 rfl), List.forall_mem_cons.mpr ⟨
  (gs_if_ne dX12_mean_21 rfl), List.forall_mem_cons.mpr ⟨
  (gs_ldc2 dX12_mean_24 (gx_mem 1498 (by decide +kernel) (by decide +kernel))), List.forall_mem_cons.mpr ⟨
  (gs_rl dX12_mean_27), List.forall_mem_cons.mpr ⟨
  (gs_iconst dX12_mean_28 rfl), List.forall_mem_cons.mpr ⟨
  (gs_istore_n dX12_mean_29 rfl), List.forall_mem_cons.mpr ⟨
  (gs_iconst dX12_mean_30 rfl), List.forall_mem_cons.mpr ⟨
  (gs_istore dX12_mean_31), List.forall_mem_cons.mpr ⟨
  (gs_iload dX12_mean_33), List.forall_mem_cons.mpr ⟨
  (gs_aload_n dX12_mean_35 rfl), List.forall_mem_cons.mpr ⟨
  (gs_gf (ref := "GriefCranesModel") dX12_mean_36 (gx_mem 998 (by decide +kernel) (by decide +kernel)) (Or.inl rfl) gf_12_1), List.forall_mem_cons.mpr ⟨
  (gs_icmp_ge dX12_mean_39 rfl), List.forall_mem_cons.mpr ⟨
  (gs_iload_n dX12_mean_42 rfl), List.forall_mem_cons.mpr ⟨
  (gs_aload_n dX12_mean_43 rfl), List.forall_mem_cons.mpr ⟨
  (gs_gf (ref := "GriefCranesModel") dX12_mean_44 (gx_mem 1007 (by decide +kernel) (by decide +kernel)) (Or.inl rfl) gf_12_10), List.forall_mem_cons.mpr ⟨
  (gs_iload dX12_mean_47), List.forall_mem_cons.mpr ⟨
  (gs_iaload dX12_mean_49), List.forall_mem_cons.mpr ⟨
  (gs_if_ne dX12_mean_50 rfl), List.forall_mem_cons.mpr ⟨
  (gs_aload_n dX12_mean_53 rfl), List.forall_mem_cons.mpr ⟨
  (gs_gf (ref := "GriefCranesModel") dX12_mean_54 (gx_mem 1005 (by decide +kernel) (by decide +kernel)) (Or.inl rfl) gf_12_8), fun _ h => absurd h List.not_mem_nil⟩⟩⟩⟩⟩⟩⟩⟩⟩⟩⟩⟩⟩⟩⟩⟩⟩⟩⟩⟩⟩⟩⟩⟩⟩⟩⟩⟩⟩⟩⟩⟩
set_option maxRecDepth 20000 in
theorem kt_X12_mean_1 (g : gx_T) : ∀ q ∈ k_X12_mean_1, gx_E g gc_md RX12 cX12_mean 5 (some .long) "mean" q.1 q.2 := List.forall_mem_cons.mpr ⟨(gs_iload dX12_mean_57), List.forall_mem_cons.mpr ⟨
  (gs_iaload dX12_mean_59), List.forall_mem_cons.mpr ⟨
  (gs_goto dX12_mean_60 rfl), List.forall_mem_cons.mpr ⟨
  (gs_iconst dX12_mean_63 rfl), List.forall_mem_cons.mpr ⟨
  (gs_iadd dX12_mean_64), List.forall_mem_cons.mpr ⟨
  (gs_istore_n dX12_mean_65 rfl), List.forall_mem_cons.mpr ⟨
  (gs_iinc dX12_mean_66), List.forall_mem_cons.mpr ⟨
  (gs_goto dX12_mean_69 rfl), List.forall_mem_cons.mpr ⟨
  (gs_aload_n dX12_mean_72 rfl), List.forall_mem_cons.mpr ⟨
  (gs_iload_n dX12_mean_73 rfl), List.forall_mem_cons.mpr ⟨
  (gs_iload_n dX12_mean_74 rfl), List.forall_mem_cons.mpr ⟨
  (gs_iload_n dX12_mean_75 rfl), List.forall_mem_cons.mpr ⟨
  (gs_cv dX12_mean_76 (fun q hq => by
      simp only [List.mem_cons, List.not_mem_nil, or_false] at hq
      subst hq
      exact Or.inl ⟨_, rfl, by decide, by decide +kernel, by decide +kernel, List.forall_mem_cons.mpr ⟨gx_mem 1499 (by decide +kernel) (by decide +kernel), List.forall_mem_cons.mpr ⟨gx_mem 1501 (by decide +kernel) (by decide +kernel), List.forall_mem_cons.mpr ⟨gx_mem 70 (by decide +kernel) (by decide +kernel), List.forall_mem_cons.mpr ⟨gx_mem 96 (by decide +kernel) (by decide +kernel), List.forall_mem_cons.mpr ⟨cw_1502, fun _ h => absurd h List.not_mem_nil⟩⟩⟩⟩⟩⟩)), List.forall_mem_cons.mpr ⟨
  (gs_rl dX12_mean_79), fun _ h => absurd h List.not_mem_nil⟩⟩⟩⟩⟩⟩⟩⟩⟩⟩⟩⟩⟩⟩
theorem kt_X12_mean (g : gx_T) : ∀ q ∈ k_X12_mean, gx_E g gc_md RX12 cX12_mean 5 (some .long) "mean" q.1 q.2 := List.forall_mem_append.mpr ⟨kt_X12_mean_0 g, kt_X12_mean_1 g⟩
set_option maxRecDepth 20000 in
theorem dX12_plan_0 : decode cX12_plan 0 = .ok (.iload_n 1, 1) := by decide +kernel
set_option maxRecDepth 20000 in
theorem dX12_plan_1 : decode cX12_plan 1 = .ok (.iconst (-1), 1) := by decide +kernel
set_option maxRecDepth 20000 in
theorem dX12_plan_2 : decode cX12_plan 2 = .ok (.if_icmp .ne 10, 3) := by decide +kernel
set_option maxRecDepth 20000 in
theorem dX12_plan_5 : decode cX12_plan 5 = .ok (.aload_n 0, 1) := by decide +kernel
set_option maxRecDepth 20000 in
theorem dX12_plan_6 : decode cX12_plan 6 = .ok (.iconst 0, 1) := by decide +kernel
set_option maxRecDepth 20000 in
theorem dX12_plan_7 : decode cX12_plan 7 = .ok (.putfield 138, 3) := by decide +kernel
set_option maxRecDepth 20000 in
theorem dX12_plan_10 : decode cX12_plan 10 = .ok (.iconst 0, 1) := by decide +kernel
set_option maxRecDepth 20000 in
theorem dX12_plan_11 : decode cX12_plan 11 = .ok (.ireturn, 1) := by decide +kernel
set_option maxRecDepth 20000 in
theorem dX12_plan_12 : decode cX12_plan 12 = .ok (.aload_n 0, 1) := by decide +kernel
set_option maxRecDepth 20000 in
theorem dX12_plan_13 : decode cX12_plan 13 = .ok (.iload_n 1, 1) := by decide +kernel
set_option maxRecDepth 20000 in
theorem dX12_plan_14 : decode cX12_plan 14 = .ok (.iconst 0, 1) := by decide +kernel
set_option maxRecDepth 20000 in
theorem dX12_plan_15 : decode cX12_plan 15 = .ok (.iconst 3, 1) := by decide +kernel
set_option maxRecDepth 20000 in
theorem dX12_plan_16 : decode cX12_plan 16 = .ok (.invokevirtual 255, 3) := by decide +kernel
set_option maxRecDepth 20000 in
theorem dX12_plan_19 : decode cX12_plan 19 = .ok (.ifCond .eq 15, 3) := by decide +kernel
set_option maxRecDepth 20000 in
theorem dX12_plan_22 : decode cX12_plan 22 = .ok (.iload_n 1, 1) := by decide +kernel
set_option maxRecDepth 20000 in
theorem dX12_plan_23 : decode cX12_plan 23 = .ok (.ifCond .le 13, 3) := by decide +kernel
set_option maxRecDepth 20000 in
theorem dX12_plan_26 : decode cX12_plan 26 = .ok (.aload_n 0, 1) := by decide +kernel
set_option maxRecDepth 20000 in
theorem dX12_plan_27 : decode cX12_plan 27 = .ok (.iload_n 2, 1) := by decide +kernel
set_option maxRecDepth 20000 in
theorem dX12_plan_28 : decode cX12_plan 28 = .ok (.invokevirtual 266, 3) := by decide +kernel
set_option maxRecDepth 20000 in
theorem dX12_plan_31 : decode cX12_plan 31 = .ok (.ifCond .ne 5, 3) := by decide +kernel
set_option maxRecDepth 20000 in
theorem dX12_plan_34 : decode cX12_plan 34 = .ok (.iconst (-1), 1) := by decide +kernel
set_option maxRecDepth 20000 in
theorem dX12_plan_35 : decode cX12_plan 35 = .ok (.ireturn, 1) := by decide +kernel
set_option maxRecDepth 20000 in
theorem dX12_plan_36 : decode cX12_plan 36 = .ok (.aload_n 0, 1) := by decide +kernel
set_option maxRecDepth 20000 in
theorem dX12_plan_37 : decode cX12_plan 37 = .ok (.getfield 138, 3) := by decide +kernel
set_option maxRecDepth 20000 in
theorem dX12_plan_40 : decode cX12_plan 40 = .ok (.bipush 10, 2) := by decide +kernel
set_option maxRecDepth 20000 in
theorem dX12_plan_42 : decode cX12_plan 42 = .ok (.if_icmp .ne 6, 3) := by decide +kernel
set_option maxRecDepth 20000 in
theorem dX12_plan_45 : decode cX12_plan 45 = .ok (.bipush (-4), 2) := by decide +kernel
set_option maxRecDepth 20000 in
theorem dX12_plan_47 : decode cX12_plan 47 = .ok (.ireturn, 1) := by decide +kernel
set_option maxRecDepth 20000 in
theorem dX12_plan_48 : decode cX12_plan 48 = .ok (.aload_n 0, 1) := by decide +kernel
set_option maxRecDepth 20000 in
theorem dX12_plan_49 : decode cX12_plan 49 = .ok (.getfield 144, 3) := by decide +kernel
set_option maxRecDepth 20000 in
theorem dX12_plan_52 : decode cX12_plan 52 = .ok (.aload_n 0, 1) := by decide +kernel
set_option maxRecDepth 20000 in
theorem dX12_plan_53 : decode cX12_plan 53 = .ok (.getfield 138, 3) := by decide +kernel
set_option maxRecDepth 20000 in
theorem dX12_plan_56 : decode cX12_plan 56 = .ok (.iload_n 1, 1) := by decide +kernel
set_option maxRecDepth 20000 in
theorem dX12_plan_57 : decode cX12_plan 57 = .ok (.iastore, 1) := by decide +kernel
set_option maxRecDepth 20000 in
theorem dX12_plan_58 : decode cX12_plan 58 = .ok (.aload_n 0, 1) := by decide +kernel
set_option maxRecDepth 20000 in
theorem dX12_plan_59 : decode cX12_plan 59 = .ok (.getfield 147, 3) := by decide +kernel
set_option maxRecDepth 20000 in
theorem dX12_plan_62 : decode cX12_plan 62 = .ok (.aload_n 0, 1) := by decide +kernel
set_option maxRecDepth 20000 in
theorem dX12_plan_63 : decode cX12_plan 63 = .ok (.getfield 138, 3) := by decide +kernel
set_option maxRecDepth 20000 in
theorem dX12_plan_66 : decode cX12_plan 66 = .ok (.iload_n 1, 1) := by decide +kernel
set_option maxRecDepth 20000 in
theorem dX12_plan_67 : decode cX12_plan 67 = .ok (.ifCond .le 7, 3) := by decide +kernel
set_option maxRecDepth 20000 in
theorem dX12_plan_70 : decode cX12_plan 70 = .ok (.iload_n 2, 1) := by decide +kernel
set_option maxRecDepth 20000 in
theorem dX12_plan_71 : decode cX12_plan 71 = .ok (.goto 4, 3) := by decide +kernel
set_option maxRecDepth 20000 in
theorem dX12_plan_74 : decode cX12_plan 74 = .ok (.iconst 0, 1) := by decide +kernel
set_option maxRecDepth 20000 in
theorem dX12_plan_75 : decode cX12_plan 75 = .ok (.iastore, 1) := by decide +kernel
set_option maxRecDepth 20000 in
theorem dX12_plan_76 : decode cX12_plan 76 = .ok (.aload_n 0, 1) := by decide +kernel
set_option maxRecDepth 20000 in
theorem dX12_plan_77 : decode cX12_plan 77 = .ok (.dup, 1) := by decide +kernel
set_option maxRecDepth 20000 in
theorem dX12_plan_78 : decode cX12_plan 78 = .ok (.getfield 138, 3) := by decide +kernel
set_option maxRecDepth 20000 in
theorem dX12_plan_81 : decode cX12_plan 81 = .ok (.iconst 1, 1) := by decide +kernel
set_option maxRecDepth 20000 in
theorem dX12_plan_82 : decode cX12_plan 82 = .ok (.iadd, 1) := by decide +kernel
set_option maxRecDepth 20000 in
theorem dX12_plan_83 : decode cX12_plan 83 = .ok (.putfield 138, 3) := by decide +kernel
set_option maxRecDepth 20000 in
theorem dX12_plan_86 : decode cX12_plan 86 = .ok (.aload_n 0, 1) := by decide +kernel
set_option maxRecDepth 20000 in
theorem dX12_plan_87 : decode cX12_plan 87 = .ok (.getfield 138, 3) := by decide +kernel
set_option maxRecDepth 20000 in
theorem dX12_plan_90 : decode cX12_plan 90 = .ok (.ireturn, 1) := by decide +kernel
set_option maxRecDepth 20000 in
theorem kt_X12_plan_0 (g : gx_T) : ∀ q ∈ k_X12_plan_0, gx_E g gc_md RX12 cX12_plan 3 (some .int) "plan" q.1 q.2 := List.forall_mem_cons.mpr ⟨(gs_iload_n dX12_plan_0 rfl), List.forall_mem_cons.mpr ⟨
  (gs_iconst dX12_plan_1 rfl), List.forall_mem_cons.mpr ⟨
  (gs_icmp_ne dX12_plan_2 rfl), List.forall_mem_cons.mpr ⟨
  (gs_aload_n dX12_plan_5 rfl), List.forall_mem_cons.mpr ⟨
  (gs_iconst dX12_plan_6 rfl), List.forall_mem_cons.mpr ⟨
  (gs_pf (ref := "GriefCranesModel") dX12_plan_7 (gx_mem 1039 (by decide +kernel) (by decide +kernel)) (Or.inl rfl) gf_12_42 (by decide +kernel)), List.forall_mem_cons.mpr ⟨
  (gs_iconst dX12_plan_10 rfl), List.forall_mem_cons.mpr ⟨
  (gs_ri dX12_plan_11), List.forall_mem_cons.mpr ⟨
  (gs_aload_n dX12_plan_12 rfl), List.forall_mem_cons.mpr ⟨
  (gs_iload_n dX12_plan_13 rfl), List.forall_mem_cons.mpr ⟨
  (gs_iconst dX12_plan_14 rfl), List.forall_mem_cons.mpr ⟨
  (gs_iconst dX12_plan_15 rfl), List.forall_mem_cons.mpr ⟨
  (gs_cv dX12_plan_16 (fun q hq => by
      simp only [List.mem_cons, List.not_mem_nil, or_false] at hq
      subst hq
      exact Or.inl ⟨_, rfl, by decide, by decide +kernel, by decide +kernel, List.forall_mem_cons.mpr ⟨gx_mem 1240 (by decide +kernel) (by decide +kernel), List.forall_mem_cons.mpr ⟨gx_mem 1242 (by decide +kernel) (by decide +kernel), List.forall_mem_cons.mpr ⟨gx_mem 21 (by decide +kernel) (by decide +kernel), List.forall_mem_cons.mpr ⟨gx_mem 96 (by decide +kernel) (by decide +kernel), List.forall_mem_cons.mpr ⟨cw_1243, fun _ h => absurd h List.not_mem_nil⟩⟩⟩⟩⟩⟩)), List.forall_mem_cons.mpr ⟨
  (gs_if_eq dX12_plan_19 rfl), List.forall_mem_cons.mpr ⟨
  (gs_iload_n dX12_plan_22 rfl), List.forall_mem_cons.mpr ⟨
  (gs_if_le dX12_plan_23 rfl), List.forall_mem_cons.mpr ⟨
  (gs_aload_n dX12_plan_26 rfl), List.forall_mem_cons.mpr ⟨
  (gs_iload_n dX12_plan_27 rfl), List.forall_mem_cons.mpr ⟨
  (gs_cv dX12_plan_28 (fun q hq => by
      simp only [List.mem_cons, List.not_mem_nil, or_false] at hq
      subst hq
      exact Or.inl ⟨_, rfl, by decide, by decide +kernel, by decide +kernel, List.forall_mem_cons.mpr ⟨gx_mem 1260 (by decide +kernel) (by decide +kernel), List.forall_mem_cons.mpr ⟨gx_mem 1262 (by decide +kernel) (by decide +kernel), List.forall_mem_cons.mpr ⟨gx_mem 24 (by decide +kernel) (by decide +kernel), List.forall_mem_cons.mpr ⟨gx_mem 96 (by decide +kernel) (by decide +kernel), List.forall_mem_cons.mpr ⟨cw_1263, fun _ h => absurd h List.not_mem_nil⟩⟩⟩⟩⟩⟩)), List.forall_mem_cons.mpr ⟨
  (gs_if_ne dX12_plan_31 rfl), List.forall_mem_cons.mpr ⟨
  (gs_iconst dX12_plan_34 rfl), List.forall_mem_cons.mpr ⟨
  (gs_ri dX12_plan_35), List.forall_mem_cons.mpr ⟨
  (gs_aload_n dX12_plan_36 rfl), List.forall_mem_cons.mpr ⟨
  (gs_gf (ref := "GriefCranesModel") dX12_plan_37 (gx_mem 1039 (by decide +kernel) (by decide +kernel)) (Or.inl rfl) gf_12_42), List.forall_mem_cons.mpr ⟨
  (gs_bipush dX12_plan_40 rfl), List.forall_mem_cons.mpr ⟨
  (gs_icmp_ne dX12_plan_42 rfl), List.forall_mem_cons.mpr ⟨
  (gs_bipush dX12_plan_45 rfl), List.forall_mem_cons.mpr ⟨
  (gs_ri dX12_plan_47), List.forall_mem_cons.mpr ⟨
  (gs_aload_n dX12_plan_48 rfl), List.forall_mem_cons.mpr ⟨
  (gs_gf (ref := "GriefCranesModel") dX12_plan_49 (gx_mem 1041 (by decide +kernel) (by decide +kernel)) (Or.inl rfl) gf_12_44), List.forall_mem_cons.mpr ⟨
  (gs_aload_n dX12_plan_52 rfl), List.forall_mem_cons.mpr ⟨
  (gs_gf (ref := "GriefCranesModel") dX12_plan_53 (gx_mem 1039 (by decide +kernel) (by decide +kernel)) (Or.inl rfl) gf_12_42), fun _ h => absurd h List.not_mem_nil⟩⟩⟩⟩⟩⟩⟩⟩⟩⟩⟩⟩⟩⟩⟩⟩⟩⟩⟩⟩⟩⟩⟩⟩⟩⟩⟩⟩⟩⟩⟩⟩
set_option maxRecDepth 20000 in
theorem kt_X12_plan_1 (g : gx_T) : ∀ q ∈ k_X12_plan_1, gx_E g gc_md RX12 cX12_plan 3 (some .int) "plan" q.1 q.2 := List.forall_mem_cons.mpr ⟨(gs_iload_n dX12_plan_56 rfl), List.forall_mem_cons.mpr ⟨
  (gs_iastore dX12_plan_57), List.forall_mem_cons.mpr ⟨
  (gs_aload_n dX12_plan_58 rfl), List.forall_mem_cons.mpr ⟨
  (gs_gf (ref := "GriefCranesModel") dX12_plan_59 (gx_mem 1042 (by decide +kernel) (by decide +kernel)) (Or.inl rfl) gf_12_45), List.forall_mem_cons.mpr ⟨
  (gs_aload_n dX12_plan_62 rfl), List.forall_mem_cons.mpr ⟨
  (gs_gf (ref := "GriefCranesModel") dX12_plan_63 (gx_mem 1039 (by decide +kernel) (by decide +kernel)) (Or.inl rfl) gf_12_42), List.forall_mem_cons.mpr ⟨
  (gs_iload_n dX12_plan_66 rfl), List.forall_mem_cons.mpr ⟨
  (gs_if_le dX12_plan_67 rfl), List.forall_mem_cons.mpr ⟨
  (gs_iload_n dX12_plan_70 rfl), List.forall_mem_cons.mpr ⟨
  (gs_goto dX12_plan_71 rfl), List.forall_mem_cons.mpr ⟨
  (gs_iconst dX12_plan_74 rfl), List.forall_mem_cons.mpr ⟨
  (gs_iastore dX12_plan_75), List.forall_mem_cons.mpr ⟨
  (gs_aload_n dX12_plan_76 rfl), List.forall_mem_cons.mpr ⟨
  (gs_dup dX12_plan_77), List.forall_mem_cons.mpr ⟨
  (gs_gf (ref := "GriefCranesModel") dX12_plan_78 (gx_mem 1039 (by decide +kernel) (by decide +kernel)) (Or.inl rfl) gf_12_42), List.forall_mem_cons.mpr ⟨
  (gs_iconst dX12_plan_81 rfl), List.forall_mem_cons.mpr ⟨
  (gs_iadd dX12_plan_82), List.forall_mem_cons.mpr ⟨
  (gs_pf (ref := "GriefCranesModel") dX12_plan_83 (gx_mem 1039 (by decide +kernel) (by decide +kernel)) (Or.inl rfl) gf_12_42 (by decide +kernel)), List.forall_mem_cons.mpr ⟨
  (gs_aload_n dX12_plan_86 rfl), List.forall_mem_cons.mpr ⟨
  (gs_gf (ref := "GriefCranesModel") dX12_plan_87 (gx_mem 1039 (by decide +kernel) (by decide +kernel)) (Or.inl rfl) gf_12_42), List.forall_mem_cons.mpr ⟨
  (gs_ri dX12_plan_90), fun _ h => absurd h List.not_mem_nil⟩⟩⟩⟩⟩⟩⟩⟩⟩⟩⟩⟩⟩⟩⟩⟩⟩⟩⟩⟩⟩
theorem kt_X12_plan (g : gx_T) : ∀ q ∈ k_X12_plan, gx_E g gc_md RX12 cX12_plan 3 (some .int) "plan" q.1 q.2 := List.forall_mem_append.mpr ⟨kt_X12_plan_0 g, kt_X12_plan_1 g⟩
set_option maxRecDepth 20000 in
theorem dX12_goPlan_0 : decode cX12_goPlan 0 = .ok (.iload_n 1, 1) := by decide +kernel
set_option maxRecDepth 20000 in
theorem dX12_goPlan_1 : decode cX12_goPlan 1 = .ok (.ifCond .ne 7, 3) := by decide +kernel
set_option maxRecDepth 20000 in
theorem dX12_goPlan_4 : decode cX12_goPlan 4 = .ok (.aload_n 0, 1) := by decide +kernel
set_option maxRecDepth 20000 in
theorem dX12_goPlan_5 : decode cX12_goPlan 5 = .ok (.invokevirtual 360, 3) := by decide +kernel
set_option maxRecDepth 20000 in
theorem dX12_goPlan_8 : decode cX12_goPlan 8 = .ok (.iload_n 1, 1) := by decide +kernel
set_option maxRecDepth 20000 in
theorem dX12_goPlan_9 : decode cX12_goPlan 9 = .ok (.iconst 2, 1) := by decide +kernel
set_option maxRecDepth 20000 in
theorem dX12_goPlan_10 : decode cX12_goPlan 10 = .ok (.if_icmp .ne 20, 3) := by decide +kernel
set_option maxRecDepth 20000 in
theorem dX12_goPlan_13 : decode cX12_goPlan 13 = .ok (.aload_n 0, 1) := by decide +kernel
set_option maxRecDepth 20000 in
theorem dX12_goPlan_14 : decode cX12_goPlan 14 = .ok (.getfield 41, 3) := by decide +kernel
set_option maxRecDepth 20000 in
theorem dX12_goPlan_17 : decode cX12_goPlan 17 = .ok (.iload_n 2, 1) := by decide +kernel
set_option maxRecDepth 20000 in
theorem dX12_goPlan_18 : decode cX12_goPlan 18 = .ok (.iaload, 1) := by decide +kernel
set_option maxRecDepth 20000 in
theorem dX12_goPlan_19 : decode cX12_goPlan 19 = .ok (.ifCond .ne 11, 3) := by decide +kernel
set_option maxRecDepth 20000 in
theorem dX12_goPlan_22 : decode cX12_goPlan 22 = .ok (.aload_n 0, 1) := by decide +kernel
set_option maxRecDepth 20000 in
theorem dX12_goPlan_23 : decode cX12_goPlan 23 = .ok (.getfield 38, 3) := by decide +kernel
set_option maxRecDepth 20000 in
theorem dX12_goPlan_26 : decode cX12_goPlan 26 = .ok (.iload_n 2, 1) := by decide +kernel
set_option maxRecDepth 20000 in
theorem dX12_goPlan_27 : decode cX12_goPlan 27 = .ok (.bipush (-5), 2) := by decide +kernel
set_option maxRecDepth 20000 in
theorem dX12_goPlan_29 : decode cX12_goPlan 29 = .ok (.iastore, 1) := by decide +kernel
set_option maxRecDepth 20000 in
theorem dX12_goPlan_30 : decode cX12_goPlan 30 = .ok (.iload_n 1, 1) := by decide +kernel
set_option maxRecDepth 20000 in
theorem dX12_goPlan_31 : decode cX12_goPlan 31 = .ok (.iconst 2, 1) := by decide +kernel
set_option maxRecDepth 20000 in
theorem dX12_goPlan_32 : decode cX12_goPlan 32 = .ok (.irem, 1) := by decide +kernel
set_option maxRecDepth 20000 in
theorem dX12_goPlan_33 : decode cX12_goPlan 33 = .ok (.iconst 1, 1) := by decide +kernel
set_option maxRecDepth 20000 in
theorem dX12_goPlan_34 : decode cX12_goPlan 34 = .ok (.if_icmp .ne 10, 3) := by decide +kernel
set_option maxRecDepth 20000 in
theorem dX12_goPlan_37 : decode cX12_goPlan 37 = .ok (.aload_n 0, 1) := by decide +kernel
set_option maxRecDepth 20000 in
theorem dX12_goPlan_38 : decode cX12_goPlan 38 = .ok (.getfield 44, 3) := by decide +kernel
set_option maxRecDepth 20000 in
theorem dX12_goPlan_41 : decode cX12_goPlan 41 = .ok (.iload_n 2, 1) := by decide +kernel
set_option maxRecDepth 20000 in
theorem dX12_goPlan_42 : decode cX12_goPlan 42 = .ok (.iconst 0, 1) := by decide +kernel
set_option maxRecDepth 20000 in
theorem dX12_goPlan_43 : decode cX12_goPlan 43 = .ok (.iastore, 1) := by decide +kernel
set_option maxRecDepth 20000 in
theorem dX12_goPlan_44 : decode cX12_goPlan 44 = .ok (.iload_n 1, 1) := by decide +kernel
set_option maxRecDepth 20000 in
theorem dX12_goPlan_45 : decode cX12_goPlan 45 = .ok (.iconst 3, 1) := by decide +kernel
set_option maxRecDepth 20000 in
theorem dX12_goPlan_46 : decode cX12_goPlan 46 = .ok (.if_icmp .ne 17, 3) := by decide +kernel
set_option maxRecDepth 20000 in
theorem dX12_goPlan_49 : decode cX12_goPlan 49 = .ok (.aload_n 0, 1) := by decide +kernel
set_option maxRecDepth 20000 in
theorem dX12_goPlan_50 : decode cX12_goPlan 50 = .ok (.getfield 41, 3) := by decide +kernel
set_option maxRecDepth 20000 in
theorem dX12_goPlan_53 : decode cX12_goPlan 53 = .ok (.iload_n 2, 1) := by decide +kernel
set_option maxRecDepth 20000 in
theorem dX12_goPlan_54 : decode cX12_goPlan 54 = .ok (.iconst 0, 1) := by decide +kernel
set_option maxRecDepth 20000 in
theorem dX12_goPlan_55 : decode cX12_goPlan 55 = .ok (.iastore, 1) := by decide +kernel
set_option maxRecDepth 20000 in
theorem dX12_goPlan_56 : decode cX12_goPlan 56 = .ok (.aload_n 0, 1) := by decide +kernel
set_option maxRecDepth 20000 in
theorem dX12_goPlan_57 : decode cX12_goPlan 57 = .ok (.getfield 47, 3) := by decide +kernel
set_option maxRecDepth 20000 in
theorem dX12_goPlan_60 : decode cX12_goPlan 60 = .ok (.iload_n 2, 1) := by decide +kernel
set_option maxRecDepth 20000 in
theorem dX12_goPlan_61 : decode cX12_goPlan 61 = .ok (.iconst 0, 1) := by decide +kernel
set_option maxRecDepth 20000 in
theorem dX12_goPlan_62 : decode cX12_goPlan 62 = .ok (.iastore, 1) := by decide +kernel
set_option maxRecDepth 20000 in
theorem dX12_goPlan_63 : decode cX12_goPlan 63 = .ok (.return_, 1) := by decide +kernel
set_option maxRecDepth 20000 in
theorem kt_X12_goPlan_0 (g : gx_T) : ∀ q ∈ k_X12_goPlan_0, gx_E g gc_md RX12 cX12_goPlan 3 (none) "goPlan" q.1 q.2 := List.forall_mem_cons.mpr ⟨(gs_iload_n dX12_goPlan_0 rfl), List.forall_mem_cons.mpr ⟨
  (gs_if_ne dX12_goPlan_1 rfl), List.forall_mem_cons.mpr ⟨
  (gs_aload_n dX12_goPlan_4 rfl), List.forall_mem_cons.mpr ⟨
  (gs_cv dX12_goPlan_5 (fun q hq => by
      simp only [List.mem_cons, List.not_mem_nil, or_false] at hq
      subst hq
      exact Or.inl ⟨_, rfl, by decide, by decide +kernel, by decide +kernel, List.forall_mem_cons.mpr ⟨gx_mem 1388 (by decide +kernel) (by decide +kernel), List.forall_mem_cons.mpr ⟨gx_mem 1390 (by decide +kernel) (by decide +kernel), List.forall_mem_cons.mpr ⟨gx_mem 50 (by decide +kernel) (by decide +kernel), List.forall_mem_cons.mpr ⟨gx_mem 96 (by decide +kernel) (by decide +kernel), List.forall_mem_cons.mpr ⟨cw_1391, fun _ h => absurd h List.not_mem_nil⟩⟩⟩⟩⟩⟩)), List.forall_mem_cons.mpr ⟨
  (gs_iload_n dX12_goPlan_8 rfl), List.forall_mem_cons.mpr ⟨
  (gs_iconst dX12_goPlan_9 rfl), List.forall_mem_cons.mpr ⟨
  (gs_icmp_ne dX12_goPlan_10 rfl), List.forall_mem_cons.mpr ⟨
  (gs_aload_n dX12_goPlan_13 rfl), List.forall_mem_cons.mpr ⟨
  (gs_gf (ref := "GriefCranesModel") dX12_goPlan_14 (gx_mem 1007 (by decide +kernel) (by decide +kernel)) (Or.inl rfl) gf_12_10), List.forall_mem_cons.mpr ⟨
  (gs_iload_n dX12_goPlan_17 rfl), List.forall_mem_cons.mpr ⟨
  (gs_iaload dX12_goPlan_18), List.forall_mem_cons.mpr ⟨
  (gs_if_ne dX12_goPlan_19 rfl), List.forall_mem_cons.mpr ⟨
  (gs_aload_n dX12_goPlan_22 rfl), List.forall_mem_cons.mpr ⟨
  (gs_gf (ref := "GriefCranesModel") dX12_goPlan_23 (gx_mem 1006 (by decide +kernel) (by decide +kernel)) (Or.inl rfl) gf_12_9), List.forall_mem_cons.mpr ⟨
  (gs_iload_n dX12_goPlan_26 rfl), List.forall_mem_cons.mpr ⟨
  (gs_bipush dX12_goPlan_27 rfl), List.forall_mem_cons.mpr ⟨
  (gs_iastore dX12_goPlan_29), List.forall_mem_cons.mpr ⟨
  (gs_iload_n dX12_goPlan_30 rfl), List.forall_mem_cons.mpr ⟨
  (gs_iconst dX12_goPlan_31 rfl), List.forall_mem_cons.mpr ⟨
  (gs_irem dX12_goPlan_32), List.forall_mem_cons.mpr ⟨
  (gs_iconst dX12_goPlan_33 rfl), List.forall_mem_cons.mpr ⟨
  (gs_icmp_ne dX12_goPlan_34 rfl), List.forall_mem_cons.mpr ⟨
  (gs_aload_n dX12_goPlan_37 rfl), List.forall_mem_cons.mpr ⟨
  (gs_gf (ref := "GriefCranesModel") dX12_goPlan_38 (gx_mem 1008 (by decide +kernel) (by decide +kernel)) (Or.inl rfl) gf_12_11), List.forall_mem_cons.mpr ⟨
  (gs_iload_n dX12_goPlan_41 rfl), List.forall_mem_cons.mpr ⟨
  (gs_iconst dX12_goPlan_42 rfl), List.forall_mem_cons.mpr ⟨
  (gs_iastore dX12_goPlan_43), List.forall_mem_cons.mpr ⟨
  (gs_iload_n dX12_goPlan_44 rfl), List.forall_mem_cons.mpr ⟨
  (gs_iconst dX12_goPlan_45 rfl), List.forall_mem_cons.mpr ⟨
  (gs_icmp_ne dX12_goPlan_46 rfl), List.forall_mem_cons.mpr ⟨
  (gs_aload_n dX12_goPlan_49 rfl), List.forall_mem_cons.mpr ⟨
  (gs_gf (ref := "GriefCranesModel") dX12_goPlan_50 (gx_mem 1007 (by decide +kernel) (by decide +kernel)) (Or.inl rfl) gf_12_10), fun _ h => absurd h List.not_mem_nil⟩⟩⟩⟩⟩⟩⟩⟩⟩⟩⟩⟩⟩⟩⟩⟩⟩⟩⟩⟩⟩⟩⟩⟩⟩⟩⟩⟩⟩⟩⟩⟩
set_option maxRecDepth 20000 in
theorem kt_X12_goPlan_1 (g : gx_T) : ∀ q ∈ k_X12_goPlan_1, gx_E g gc_md RX12 cX12_goPlan 3 (none) "goPlan" q.1 q.2 := List.forall_mem_cons.mpr ⟨(gs_iload_n dX12_goPlan_53 rfl), List.forall_mem_cons.mpr ⟨
  (gs_iconst dX12_goPlan_54 rfl), List.forall_mem_cons.mpr ⟨
  (gs_iastore dX12_goPlan_55), List.forall_mem_cons.mpr ⟨
  (gs_aload_n dX12_goPlan_56 rfl), List.forall_mem_cons.mpr ⟨
  (gs_gf (ref := "GriefCranesModel") dX12_goPlan_57 (gx_mem 1009 (by decide +kernel) (by decide +kernel)) (Or.inl rfl) gf_12_12), List.forall_mem_cons.mpr ⟨
  (gs_iload_n dX12_goPlan_60 rfl), List.forall_mem_cons.mpr ⟨
  (gs_iconst dX12_goPlan_61 rfl), List.forall_mem_cons.mpr ⟨
  (gs_iastore dX12_goPlan_62), List.forall_mem_cons.mpr ⟨
  (gs_rv dX12_goPlan_63), fun _ h => absurd h List.not_mem_nil⟩⟩⟩⟩⟩⟩⟩⟩⟩
theorem kt_X12_goPlan (g : gx_T) : ∀ q ∈ k_X12_goPlan, gx_E g gc_md RX12 cX12_goPlan 3 (none) "goPlan" q.1 q.2 := List.forall_mem_append.mpr ⟨kt_X12_goPlan_0 g, kt_X12_goPlan_1 g⟩
set_option maxRecDepth 20000 in
theorem dX12_ends_0 : decode cX12_ends 0 = .ok (.aload_n 0, 1) := by decide +kernel
set_option maxRecDepth 20000 in
theorem dX12_ends_1 : decode cX12_ends 1 = .ok (.iload_n 1, 1) := by decide +kernel
set_option maxRecDepth 20000 in
theorem dX12_ends_2 : decode cX12_ends 2 = .ok (.iconst 0, 1) := by decide +kernel
set_option maxRecDepth 20000 in
theorem dX12_ends_3 : decode cX12_ends 3 = .ok (.iconst 1, 1) := by decide +kernel
set_option maxRecDepth 20000 in
theorem dX12_ends_4 : decode cX12_ends 4 = .ok (.invokevirtual 255, 3) := by decide +kernel
set_option maxRecDepth 20000 in
theorem dX12_ends_7 : decode cX12_ends 7 = .ok (.ifCond .ne 5, 3) := by decide +kernel
set_option maxRecDepth 20000 in
theorem dX12_ends_10 : decode cX12_ends 10 = .ok (.iconst (-1), 1) := by decide +kernel
set_option maxRecDepth 20000 in
theorem dX12_ends_11 : decode cX12_ends 11 = .ok (.ireturn, 1) := by decide +kernel
set_option maxRecDepth 20000 in
theorem dX12_ends_12 : decode cX12_ends 12 = .ok (.aload_n 0, 1) := by decide +kernel
set_option maxRecDepth 20000 in
theorem dX12_ends_13 : decode cX12_ends 13 = .ok (.invokevirtual 370, 3) := by decide +kernel
set_option maxRecDepth 20000 in
theorem dX12_ends_16 : decode cX12_ends 16 = .ok (.iconst 0, 1) := by decide +kernel
set_option maxRecDepth 20000 in
theorem dX12_ends_17 : decode cX12_ends 17 = .ok (.istore_n 2, 1) := by decide +kernel
set_option maxRecDepth 20000 in
theorem dX12_ends_18 : decode cX12_ends 18 = .ok (.iload_n 2, 1) := by decide +kernel
set_option maxRecDepth 20000 in
theorem dX12_ends_19 : decode cX12_ends 19 = .ok (.aload_n 0, 1) := by decide +kernel
set_option maxRecDepth 20000 in
theorem dX12_ends_20 : decode cX12_ends 20 = .ok (.getfield 138, 3) := by decide +kernel
set_option maxRecDepth 20000 in
theorem dX12_ends_23 : decode cX12_ends 23 = .ok (.if_icmp .ge 25, 3) := by decide +kernel
set_option maxRecDepth 20000 in
theorem dX12_ends_26 : decode cX12_ends 26 = .ok (.aload_n 0, 1) := by decide +kernel
set_option maxRecDepth 20000 in
theorem dX12_ends_27 : decode cX12_ends 27 = .ok (.aload_n 0, 1) := by decide +kernel
set_option maxRecDepth 20000 in
theorem dX12_ends_28 : decode cX12_ends 28 = .ok (.getfield 144, 3) := by decide +kernel
set_option maxRecDepth 20000 in
theorem dX12_ends_31 : decode cX12_ends 31 = .ok (.iload_n 2, 1) := by decide +kernel
set_option maxRecDepth 20000 in
theorem dX12_ends_32 : decode cX12_ends 32 = .ok (.iaload, 1) := by decide +kernel
set_option maxRecDepth 20000 in
theorem dX12_ends_33 : decode cX12_ends 33 = .ok (.aload_n 0, 1) := by decide +kernel
set_option maxRecDepth 20000 in
theorem dX12_ends_34 : decode cX12_ends 34 = .ok (.getfield 147, 3) := by decide +kernel
set_option maxRecDepth 20000 in
theorem dX12_ends_37 : decode cX12_ends 37 = .ok (.iload_n 2, 1) := by decide +kernel
set_option maxRecDepth 20000 in
theorem dX12_ends_38 : decode cX12_ends 38 = .ok (.iaload, 1) := by decide +kernel
set_option maxRecDepth 20000 in
theorem dX12_ends_39 : decode cX12_ends 39 = .ok (.invokevirtual 422, 3) := by decide +kernel
set_option maxRecDepth 20000 in
theorem dX12_ends_42 : decode cX12_ends 42 = .ok (.iinc 2 1, 3) := by decide +kernel
set_option maxRecDepth 20000 in
theorem dX12_ends_45 : decode cX12_ends 45 = .ok (.goto (-27), 3) := by decide +kernel
set_option maxRecDepth 20000 in
theorem dX12_ends_48 : decode cX12_ends 48 = .ok (.aload_n 0, 1) := by decide +kernel
set_option maxRecDepth 20000 in
theorem dX12_ends_49 : decode cX12_ends 49 = .ok (.aload_n 0, 1) := by decide +kernel
set_option maxRecDepth 20000 in
theorem dX12_ends_50 : decode cX12_ends 50 = .ok (.iload_n 1, 1) := by decide +kernel
set_option maxRecDepth 20000 in
theorem dX12_ends_51 : decode cX12_ends 51 = .ok (.ifCond .ne 7, 3) := by decide +kernel
set_option maxRecDepth 20000 in
theorem dX12_ends_54 : decode cX12_ends 54 = .ok (.iconst 2, 1) := by decide +kernel
set_option maxRecDepth 20000 in
theorem dX12_ends_55 : decode cX12_ends 55 = .ok (.goto 4, 3) := by decide +kernel
set_option maxRecDepth 20000 in
theorem dX12_ends_58 : decode cX12_ends 58 = .ok (.iconst 3, 1) := by decide +kernel
set_option maxRecDepth 20000 in
theorem dX12_ends_59 : decode cX12_ends 59 = .ok (.invokevirtual 379, 3) := by decide +kernel
set_option maxRecDepth 20000 in
theorem dX12_ends_62 : decode cX12_ends 62 = .ok (.invokevirtual 382, 3) := by decide +kernel
set_option maxRecDepth 20000 in
theorem dX12_ends_65 : decode cX12_ends 65 = .ok (.istore_n 2, 1) := by decide +kernel
set_option maxRecDepth 20000 in
theorem dX12_ends_66 : decode cX12_ends 66 = .ok (.aload_n 0, 1) := by decide +kernel
set_option maxRecDepth 20000 in
theorem dX12_ends_67 : decode cX12_ends 67 = .ok (.invokevirtual 373, 3) := by decide +kernel
set_option maxRecDepth 20000 in
theorem dX12_ends_70 : decode cX12_ends 70 = .ok (.iload_n 2, 1) := by decide +kernel
set_option maxRecDepth 20000 in
theorem dX12_ends_71 : decode cX12_ends 71 = .ok (.ireturn, 1) := by decide +kernel
set_option maxRecDepth 20000 in
theorem kt_X12_ends_0 (g : gx_T) : ∀ q ∈ k_X12_ends_0, gx_E g gc_md RX12 cX12_ends 3 (some .int) "ends" q.1 q.2 := List.forall_mem_cons.mpr ⟨(gs_aload_n dX12_ends_0 rfl), List.forall_mem_cons.mpr ⟨
  (gs_iload_n dX12_ends_1 rfl), List.forall_mem_cons.mpr ⟨
  (gs_iconst dX12_ends_2 rfl), List.forall_mem_cons.mpr ⟨
  (gs_iconst dX12_ends_3 rfl), List.forall_mem_cons.mpr ⟨
  (gs_cv dX12_ends_4 (fun q hq => by
      simp only [List.mem_cons, List.not_mem_nil, or_false] at hq
      subst hq
      exact Or.inl ⟨_, rfl, by decide, by decide +kernel, by decide +kernel, List.forall_mem_cons.mpr ⟨gx_mem 1240 (by decide +kernel) (by decide +kernel), List.forall_mem_cons.mpr ⟨gx_mem 1242 (by decide +kernel) (by decide +kernel), List.forall_mem_cons.mpr ⟨gx_mem 21 (by decide +kernel) (by decide +kernel), List.forall_mem_cons.mpr ⟨gx_mem 96 (by decide +kernel) (by decide +kernel), List.forall_mem_cons.mpr ⟨cw_1243, fun _ h => absurd h List.not_mem_nil⟩⟩⟩⟩⟩⟩)), List.forall_mem_cons.mpr ⟨
  (gs_if_ne dX12_ends_7 rfl), List.forall_mem_cons.mpr ⟨
  (gs_iconst dX12_ends_10 rfl), List.forall_mem_cons.mpr ⟨
  (gs_ri dX12_ends_11), List.forall_mem_cons.mpr ⟨
  (gs_aload_n dX12_ends_12 rfl), List.forall_mem_cons.mpr ⟨
  (gs_cv dX12_ends_13 (fun q hq => by
      simp only [List.mem_cons, List.not_mem_nil, or_false] at hq
      subst hq
      exact Or.inl ⟨_, rfl, by decide, by decide +kernel, by decide +kernel, List.forall_mem_cons.mpr ⟨gx_mem 1424 (by decide +kernel) (by decide +kernel), List.forall_mem_cons.mpr ⟨gx_mem 1426 (by decide +kernel) (by decide +kernel), List.forall_mem_cons.mpr ⟨gx_mem 57 (by decide +kernel) (by decide +kernel), List.forall_mem_cons.mpr ⟨gx_mem 96 (by decide +kernel) (by decide +kernel), List.forall_mem_cons.mpr ⟨cw_1427, fun _ h => absurd h List.not_mem_nil⟩⟩⟩⟩⟩⟩)), List.forall_mem_cons.mpr ⟨
  (gs_iconst dX12_ends_16 rfl), List.forall_mem_cons.mpr ⟨
  (gs_istore_n dX12_ends_17 rfl), List.forall_mem_cons.mpr ⟨
  (gs_iload_n dX12_ends_18 rfl), List.forall_mem_cons.mpr ⟨
  (gs_aload_n dX12_ends_19 rfl), List.forall_mem_cons.mpr ⟨
  (gs_gf (ref := "GriefCranesModel") dX12_ends_20 (gx_mem 1039 (by decide +kernel) (by decide +kernel)) (Or.inl rfl) gf_12_42), List.forall_mem_cons.mpr ⟨
  (gs_icmp_ge dX12_ends_23 rfl), List.forall_mem_cons.mpr ⟨
  (gs_aload_n dX12_ends_26 rfl), List.forall_mem_cons.mpr ⟨
  (gs_aload_n dX12_ends_27 rfl), List.forall_mem_cons.mpr ⟨
  (gs_gf (ref := "GriefCranesModel") dX12_ends_28 (gx_mem 1041 (by decide +kernel) (by decide +kernel)) (Or.inl rfl) gf_12_44), List.forall_mem_cons.mpr ⟨
  (gs_iload_n dX12_ends_31 rfl), List.forall_mem_cons.mpr ⟨
  (gs_iaload dX12_ends_32), List.forall_mem_cons.mpr ⟨
  (gs_aload_n dX12_ends_33 rfl), List.forall_mem_cons.mpr ⟨
  (gs_gf (ref := "GriefCranesModel") dX12_ends_34 (gx_mem 1042 (by decide +kernel) (by decide +kernel)) (Or.inl rfl) gf_12_45), List.forall_mem_cons.mpr ⟨
  (gs_iload_n dX12_ends_37 rfl), List.forall_mem_cons.mpr ⟨
  (gs_iaload dX12_ends_38), List.forall_mem_cons.mpr ⟨
  (gs_cv dX12_ends_39 (fun q hq => by
      simp only [List.mem_cons, List.not_mem_nil, or_false] at hq
      subst hq
      exact Or.inl ⟨_, rfl, by decide, by decide +kernel, by decide +kernel, List.forall_mem_cons.mpr ⟨gx_mem 1519 (by decide +kernel) (by decide +kernel), List.forall_mem_cons.mpr ⟨gx_mem 1521 (by decide +kernel) (by decide +kernel), List.forall_mem_cons.mpr ⟨gx_mem 72 (by decide +kernel) (by decide +kernel), List.forall_mem_cons.mpr ⟨gx_mem 96 (by decide +kernel) (by decide +kernel), List.forall_mem_cons.mpr ⟨cw_1522, fun _ h => absurd h List.not_mem_nil⟩⟩⟩⟩⟩⟩)), List.forall_mem_cons.mpr ⟨
  (gs_iinc dX12_ends_42), List.forall_mem_cons.mpr ⟨
  (gs_goto dX12_ends_45 rfl), List.forall_mem_cons.mpr ⟨
  (gs_aload_n dX12_ends_48 rfl), List.forall_mem_cons.mpr ⟨
  (gs_aload_n dX12_ends_49 rfl), List.forall_mem_cons.mpr ⟨
  (gs_iload_n dX12_ends_50 rfl), List.forall_mem_cons.mpr ⟨
  (gs_if_ne dX12_ends_51 rfl), fun _ h => absurd h List.not_mem_nil⟩⟩⟩⟩⟩⟩⟩⟩⟩⟩⟩⟩⟩⟩⟩⟩⟩⟩⟩⟩⟩⟩⟩⟩⟩⟩⟩⟩⟩⟩⟩⟩
set_option maxRecDepth 20000 in
theorem kt_X12_ends_1 (g : gx_T) : ∀ q ∈ k_X12_ends_1, gx_E g gc_md RX12 cX12_ends 3 (some .int) "ends" q.1 q.2 := List.forall_mem_cons.mpr ⟨(gs_iconst dX12_ends_54 rfl), List.forall_mem_cons.mpr ⟨
  (gs_goto dX12_ends_55 rfl), List.forall_mem_cons.mpr ⟨
  (gs_iconst dX12_ends_58 rfl), List.forall_mem_cons.mpr ⟨
  (gs_cv dX12_ends_59 (fun q hq => by
      simp only [List.mem_cons, List.not_mem_nil, or_false] at hq
      subst hq
      exact Or.inl ⟨_, rfl, by decide, by decide +kernel, by decide +kernel, List.forall_mem_cons.mpr ⟨gx_mem 1416 (by decide +kernel) (by decide +kernel), List.forall_mem_cons.mpr ⟨gx_mem 1418 (by decide +kernel) (by decide +kernel), List.forall_mem_cons.mpr ⟨gx_mem 56 (by decide +kernel) (by decide +kernel), List.forall_mem_cons.mpr ⟨gx_mem 96 (by decide +kernel) (by decide +kernel), List.forall_mem_cons.mpr ⟨cw_1419, fun _ h => absurd h List.not_mem_nil⟩⟩⟩⟩⟩⟩)), List.forall_mem_cons.mpr ⟨
  (gs_cv dX12_ends_62 (fun q hq => by
      simp only [List.mem_cons, List.not_mem_nil, or_false] at hq
      subst hq
      exact Or.inl ⟨_, rfl, by decide, by decide +kernel, by decide +kernel, List.forall_mem_cons.mpr ⟨gx_mem 1429 (by decide +kernel) (by decide +kernel), List.forall_mem_cons.mpr ⟨gx_mem 1431 (by decide +kernel) (by decide +kernel), List.forall_mem_cons.mpr ⟨gx_mem 58 (by decide +kernel) (by decide +kernel), List.forall_mem_cons.mpr ⟨gx_mem 96 (by decide +kernel) (by decide +kernel), List.forall_mem_cons.mpr ⟨cw_1432, fun _ h => absurd h List.not_mem_nil⟩⟩⟩⟩⟩⟩)), List.forall_mem_cons.mpr ⟨
  (gs_istore_n dX12_ends_65 rfl), List.forall_mem_cons.mpr ⟨
  (gs_aload_n dX12_ends_66 rfl), List.forall_mem_cons.mpr ⟨
  (gs_cv dX12_ends_67 (fun q hq => by
      simp only [List.mem_cons, List.not_mem_nil, or_false] at hq
      subst hq
      exact Or.inl ⟨_, rfl, by decide, by decide +kernel, by decide +kernel, List.forall_mem_cons.mpr ⟨gx_mem 1437 (by decide +kernel) (by decide +kernel), List.forall_mem_cons.mpr ⟨gx_mem 1439 (by decide +kernel) (by decide +kernel), List.forall_mem_cons.mpr ⟨gx_mem 60 (by decide +kernel) (by decide +kernel), List.forall_mem_cons.mpr ⟨gx_mem 96 (by decide +kernel) (by decide +kernel), List.forall_mem_cons.mpr ⟨cw_1440, fun _ h => absurd h List.not_mem_nil⟩⟩⟩⟩⟩⟩)), List.forall_mem_cons.mpr ⟨
  (gs_iload_n dX12_ends_70 rfl), List.forall_mem_cons.mpr ⟨
  (gs_ri dX12_ends_71), fun _ h => absurd h List.not_mem_nil⟩⟩⟩⟩⟩⟩⟩⟩⟩⟩
theorem kt_X12_ends (g : gx_T) : ∀ q ∈ k_X12_ends, gx_E g gc_md RX12 cX12_ends 3 (some .int) "ends" q.1 q.2 := List.forall_mem_append.mpr ⟨kt_X12_ends_0 g, kt_X12_ends_1 g⟩
set_option maxRecDepth 20000 in
theorem dX12_book_0 : decode cX12_book 0 = .ok (.iload_n 1, 1) := by decide +kernel
set_option maxRecDepth 20000 in
theorem dX12_book_1 : decode cX12_book 1 = .ok (.iconst (-1), 1) := by decide +kernel
set_option maxRecDepth 20000 in
theorem dX12_book_2 : decode cX12_book 2 = .ok (.if_icmp .ne 10, 3) := by decide +kernel
set_option maxRecDepth 20000 in
theorem dX12_book_5 : decode cX12_book 5 = .ok (.aload_n 0, 1) := by decide +kernel
set_option maxRecDepth 20000 in
theorem dX12_book_6 : decode cX12_book 6 = .ok (.iconst 0, 1) := by decide +kernel
set_option maxRecDepth 20000 in
theorem dX12_book_7 : decode cX12_book 7 = .ok (.putfield 141, 3) := by decide +kernel
set_option maxRecDepth 20000 in
theorem dX12_book_10 : decode cX12_book 10 = .ok (.iconst 0, 1) := by decide +kernel
set_option maxRecDepth 20000 in
theorem dX12_book_11 : decode cX12_book 11 = .ok (.ireturn, 1) := by decide +kernel
set_option maxRecDepth 20000 in
theorem dX12_book_12 : decode cX12_book 12 = .ok (.aload_n 0, 1) := by decide +kernel
set_option maxRecDepth 20000 in
theorem dX12_book_13 : decode cX12_book 13 = .ok (.iload_n 1, 1) := by decide +kernel
set_option maxRecDepth 20000 in
theorem dX12_book_14 : decode cX12_book 14 = .ok (.invokevirtual 266, 3) := by decide +kernel
set_option maxRecDepth 20000 in
theorem dX12_book_17 : decode cX12_book 17 = .ok (.ifCond .ne 5, 3) := by decide +kernel
set_option maxRecDepth 20000 in
theorem dX12_book_20 : decode cX12_book 20 = .ok (.iconst (-1), 1) := by decide +kernel
set_option maxRecDepth 20000 in
theorem dX12_book_21 : decode cX12_book 21 = .ok (.ireturn, 1) := by decide +kernel
set_option maxRecDepth 20000 in
theorem dX12_book_22 : decode cX12_book 22 = .ok (.aload_n 0, 1) := by decide +kernel
set_option maxRecDepth 20000 in
theorem dX12_book_23 : decode cX12_book 23 = .ok (.iload_n 2, 1) := by decide +kernel
set_option maxRecDepth 20000 in
theorem dX12_book_24 : decode cX12_book 24 = .ok (.invokevirtual 263, 3) := by decide +kernel
set_option maxRecDepth 20000 in
theorem dX12_book_27 : decode cX12_book 27 = .ok (.ifCond .ne 6, 3) := by decide +kernel
set_option maxRecDepth 20000 in
theorem dX12_book_30 : decode cX12_book 30 = .ok (.bipush (-2), 2) := by decide +kernel
set_option maxRecDepth 20000 in
theorem dX12_book_32 : decode cX12_book 32 = .ok (.ireturn, 1) := by decide +kernel
set_option maxRecDepth 20000 in
theorem dX12_book_33 : decode cX12_book 33 = .ok (.aload_n 0, 1) := by decide +kernel
set_option maxRecDepth 20000 in
theorem dX12_book_34 : decode cX12_book 34 = .ok (.getfield 141, 3) := by decide +kernel
set_option maxRecDepth 20000 in
theorem dX12_book_37 : decode cX12_book 37 = .ok (.bipush 8, 2) := by decide +kernel
set_option maxRecDepth 20000 in
theorem dX12_book_39 : decode cX12_book 39 = .ok (.if_icmp .ne 6, 3) := by decide +kernel
set_option maxRecDepth 20000 in
theorem dX12_book_42 : decode cX12_book 42 = .ok (.bipush (-4), 2) := by decide +kernel
set_option maxRecDepth 20000 in
theorem dX12_book_44 : decode cX12_book 44 = .ok (.ireturn, 1) := by decide +kernel
set_option maxRecDepth 20000 in
theorem dX12_book_45 : decode cX12_book 45 = .ok (.aload_n 0, 1) := by decide +kernel
set_option maxRecDepth 20000 in
theorem dX12_book_46 : decode cX12_book 46 = .ok (.getfield 150, 3) := by decide +kernel
set_option maxRecDepth 20000 in
theorem dX12_book_49 : decode cX12_book 49 = .ok (.aload_n 0, 1) := by decide +kernel
set_option maxRecDepth 20000 in
theorem dX12_book_50 : decode cX12_book 50 = .ok (.getfield 141, 3) := by decide +kernel
set_option maxRecDepth 20000 in
theorem dX12_book_53 : decode cX12_book 53 = .ok (.iload_n 1, 1) := by decide +kernel
set_option maxRecDepth 20000 in
theorem dX12_book_54 : decode cX12_book 54 = .ok (.iastore, 1) := by decide +kernel
set_option maxRecDepth 20000 in
theorem dX12_book_55 : decode cX12_book 55 = .ok (.aload_n 0, 1) := by decide +kernel
set_option maxRecDepth 20000 in
theorem dX12_book_56 : decode cX12_book 56 = .ok (.getfield 153, 3) := by decide +kernel
set_option maxRecDepth 20000 in
theorem dX12_book_59 : decode cX12_book 59 = .ok (.aload_n 0, 1) := by decide +kernel
set_option maxRecDepth 20000 in
theorem dX12_book_60 : decode cX12_book 60 = .ok (.getfield 141, 3) := by decide +kernel
set_option maxRecDepth 20000 in
theorem dX12_book_63 : decode cX12_book 63 = .ok (.iload_n 2, 1) := by decide +kernel
set_option maxRecDepth 20000 in
theorem dX12_book_64 : decode cX12_book 64 = .ok (.iastore, 1) := by decide +kernel
set_option maxRecDepth 20000 in
theorem dX12_book_65 : decode cX12_book 65 = .ok (.aload_n 0, 1) := by decide +kernel
set_option maxRecDepth 20000 in
theorem dX12_book_66 : decode cX12_book 66 = .ok (.dup, 1) := by decide +kernel
set_option maxRecDepth 20000 in
theorem dX12_book_67 : decode cX12_book 67 = .ok (.getfield 141, 3) := by decide +kernel
set_option maxRecDepth 20000 in
theorem dX12_book_70 : decode cX12_book 70 = .ok (.iconst 1, 1) := by decide +kernel
set_option maxRecDepth 20000 in
theorem dX12_book_71 : decode cX12_book 71 = .ok (.iadd, 1) := by decide +kernel
set_option maxRecDepth 20000 in
theorem dX12_book_72 : decode cX12_book 72 = .ok (.putfield 141, 3) := by decide +kernel
set_option maxRecDepth 20000 in
theorem dX12_book_75 : decode cX12_book 75 = .ok (.aload_n 0, 1) := by decide +kernel
set_option maxRecDepth 20000 in
theorem dX12_book_76 : decode cX12_book 76 = .ok (.getfield 141, 3) := by decide +kernel
set_option maxRecDepth 20000 in
theorem dX12_book_79 : decode cX12_book 79 = .ok (.ireturn, 1) := by decide +kernel
set_option maxRecDepth 20000 in
theorem kt_X12_book_0 (g : gx_T) : ∀ q ∈ k_X12_book_0, gx_E g gc_md RX12 cX12_book 3 (some .int) "book" q.1 q.2 := List.forall_mem_cons.mpr ⟨(gs_iload_n dX12_book_0 rfl), List.forall_mem_cons.mpr ⟨
  (gs_iconst dX12_book_1 rfl), List.forall_mem_cons.mpr ⟨
  (gs_icmp_ne dX12_book_2 rfl), List.forall_mem_cons.mpr ⟨
  (gs_aload_n dX12_book_5 rfl), List.forall_mem_cons.mpr ⟨
  (gs_iconst dX12_book_6 rfl), List.forall_mem_cons.mpr ⟨
  (gs_pf (ref := "GriefCranesModel") dX12_book_7 (gx_mem 1040 (by decide +kernel) (by decide +kernel)) (Or.inl rfl) gf_12_43 (by decide +kernel)), List.forall_mem_cons.mpr ⟨
  (gs_iconst dX12_book_10 rfl), List.forall_mem_cons.mpr ⟨
  (gs_ri dX12_book_11), List.forall_mem_cons.mpr ⟨
  (gs_aload_n dX12_book_12 rfl), List.forall_mem_cons.mpr ⟨
  (gs_iload_n dX12_book_13 rfl), List.forall_mem_cons.mpr ⟨
  (gs_cv dX12_book_14 (fun q hq => by
      simp only [List.mem_cons, List.not_mem_nil, or_false] at hq
      subst hq
      exact Or.inl ⟨_, rfl, by decide, by decide +kernel, by decide +kernel, List.forall_mem_cons.mpr ⟨gx_mem 1260 (by decide +kernel) (by decide +kernel), List.forall_mem_cons.mpr ⟨gx_mem 1262 (by decide +kernel) (by decide +kernel), List.forall_mem_cons.mpr ⟨gx_mem 24 (by decide +kernel) (by decide +kernel), List.forall_mem_cons.mpr ⟨gx_mem 96 (by decide +kernel) (by decide +kernel), List.forall_mem_cons.mpr ⟨cw_1263, fun _ h => absurd h List.not_mem_nil⟩⟩⟩⟩⟩⟩)), List.forall_mem_cons.mpr ⟨
  (gs_if_ne dX12_book_17 rfl), List.forall_mem_cons.mpr ⟨
  (gs_iconst dX12_book_20 rfl), List.forall_mem_cons.mpr ⟨
  (gs_ri dX12_book_21), List.forall_mem_cons.mpr ⟨
  (gs_aload_n dX12_book_22 rfl), List.forall_mem_cons.mpr ⟨
  (gs_iload_n dX12_book_23 rfl), List.forall_mem_cons.mpr ⟨
  (gs_cv dX12_book_24 (fun q hq => by
      simp only [List.mem_cons, List.not_mem_nil, or_false] at hq
      subst hq
      exact Or.inl ⟨_, rfl, by decide, by decide +kernel, by decide +kernel, List.forall_mem_cons.mpr ⟨gx_mem 1252 (by decide +kernel) (by decide +kernel), List.forall_mem_cons.mpr ⟨gx_mem 1254 (by decide +kernel) (by decide +kernel), List.forall_mem_cons.mpr ⟨gx_mem 23 (by decide +kernel) (by decide +kernel), List.forall_mem_cons.mpr ⟨gx_mem 96 (by decide +kernel) (by decide +kernel), List.forall_mem_cons.mpr ⟨cw_1255, fun _ h => absurd h List.not_mem_nil⟩⟩⟩⟩⟩⟩)), List.forall_mem_cons.mpr ⟨
  (gs_if_ne dX12_book_27 rfl), List.forall_mem_cons.mpr ⟨
  (gs_bipush dX12_book_30 rfl), List.forall_mem_cons.mpr ⟨
  (gs_ri dX12_book_32), List.forall_mem_cons.mpr ⟨
  (gs_aload_n dX12_book_33 rfl), List.forall_mem_cons.mpr ⟨
  (gs_gf (ref := "GriefCranesModel") dX12_book_34 (gx_mem 1040 (by decide +kernel) (by decide +kernel)) (Or.inl rfl) gf_12_43), List.forall_mem_cons.mpr ⟨
  (gs_bipush dX12_book_37 rfl), List.forall_mem_cons.mpr ⟨
  (gs_icmp_ne dX12_book_39 rfl), List.forall_mem_cons.mpr ⟨
  (gs_bipush dX12_book_42 rfl), List.forall_mem_cons.mpr ⟨
  (gs_ri dX12_book_44), List.forall_mem_cons.mpr ⟨
  (gs_aload_n dX12_book_45 rfl), List.forall_mem_cons.mpr ⟨
  (gs_gf (ref := "GriefCranesModel") dX12_book_46 (gx_mem 1043 (by decide +kernel) (by decide +kernel)) (Or.inl rfl) gf_12_46), List.forall_mem_cons.mpr ⟨
  (gs_aload_n dX12_book_49 rfl), List.forall_mem_cons.mpr ⟨
  (gs_gf (ref := "GriefCranesModel") dX12_book_50 (gx_mem 1040 (by decide +kernel) (by decide +kernel)) (Or.inl rfl) gf_12_43), List.forall_mem_cons.mpr ⟨
  (gs_iload_n dX12_book_53 rfl), List.forall_mem_cons.mpr ⟨
  (gs_iastore dX12_book_54), fun _ h => absurd h List.not_mem_nil⟩⟩⟩⟩⟩⟩⟩⟩⟩⟩⟩⟩⟩⟩⟩⟩⟩⟩⟩⟩⟩⟩⟩⟩⟩⟩⟩⟩⟩⟩⟩⟩
set_option maxRecDepth 20000 in
theorem kt_X12_book_1 (g : gx_T) : ∀ q ∈ k_X12_book_1, gx_E g gc_md RX12 cX12_book 3 (some .int) "book" q.1 q.2 := List.forall_mem_cons.mpr ⟨(gs_aload_n dX12_book_55 rfl), List.forall_mem_cons.mpr ⟨
  (gs_gf (ref := "GriefCranesModel") dX12_book_56 (gx_mem 1044 (by decide +kernel) (by decide +kernel)) (Or.inl rfl) gf_12_47), List.forall_mem_cons.mpr ⟨
  (gs_aload_n dX12_book_59 rfl), List.forall_mem_cons.mpr ⟨
  (gs_gf (ref := "GriefCranesModel") dX12_book_60 (gx_mem 1040 (by decide +kernel) (by decide +kernel)) (Or.inl rfl) gf_12_43), List.forall_mem_cons.mpr ⟨
  (gs_iload_n dX12_book_63 rfl), List.forall_mem_cons.mpr ⟨
  (gs_iastore dX12_book_64), List.forall_mem_cons.mpr ⟨
  (gs_aload_n dX12_book_65 rfl), List.forall_mem_cons.mpr ⟨
  (gs_dup dX12_book_66), List.forall_mem_cons.mpr ⟨
  (gs_gf (ref := "GriefCranesModel") dX12_book_67 (gx_mem 1040 (by decide +kernel) (by decide +kernel)) (Or.inl rfl) gf_12_43), List.forall_mem_cons.mpr ⟨
  (gs_iconst dX12_book_70 rfl), List.forall_mem_cons.mpr ⟨
  (gs_iadd dX12_book_71), List.forall_mem_cons.mpr ⟨
  (gs_pf (ref := "GriefCranesModel") dX12_book_72 (gx_mem 1040 (by decide +kernel) (by decide +kernel)) (Or.inl rfl) gf_12_43 (by decide +kernel)), List.forall_mem_cons.mpr ⟨
  (gs_aload_n dX12_book_75 rfl), List.forall_mem_cons.mpr ⟨
  (gs_gf (ref := "GriefCranesModel") dX12_book_76 (gx_mem 1040 (by decide +kernel) (by decide +kernel)) (Or.inl rfl) gf_12_43), List.forall_mem_cons.mpr ⟨
  (gs_ri dX12_book_79), fun _ h => absurd h List.not_mem_nil⟩⟩⟩⟩⟩⟩⟩⟩⟩⟩⟩⟩⟩⟩⟩
theorem kt_X12_book (g : gx_T) : ∀ q ∈ k_X12_book, gx_E g gc_md RX12 cX12_book 3 (some .int) "book" q.1 q.2 := List.forall_mem_append.mpr ⟨kt_X12_book_0 g, kt_X12_book_1 g⟩
set_option maxRecDepth 20000 in
theorem dX12_looked_0 : decode cX12_looked 0 = .ok (.iconst 0, 1) := by decide +kernel
set_option maxRecDepth 20000 in
theorem dX12_looked_1 : decode cX12_looked 1 = .ok (.istore_n 1, 1) := by decide +kernel
set_option maxRecDepth 20000 in
theorem dX12_looked_2 : decode cX12_looked 2 = .ok (.iload_n 1, 1) := by decide +kernel
set_option maxRecDepth 20000 in
theorem dX12_looked_3 : decode cX12_looked 3 = .ok (.aload_n 0, 1) := by decide +kernel
set_option maxRecDepth 20000 in
theorem dX12_looked_4 : decode cX12_looked 4 = .ok (.getfield 141, 3) := by decide +kernel
set_option maxRecDepth 20000 in
theorem dX12_looked_7 : decode cX12_looked 7 = .ok (.if_icmp .ge 31, 3) := by decide +kernel
set_option maxRecDepth 20000 in
theorem dX12_looked_10 : decode cX12_looked 10 = .ok (.aload_n 0, 1) := by decide +kernel
set_option maxRecDepth 20000 in
theorem dX12_looked_11 : decode cX12_looked 11 = .ok (.getfield 35, 3) := by decide +kernel
set_option maxRecDepth 20000 in
theorem dX12_looked_14 : decode cX12_looked 14 = .ok (.aload_n 0, 1) := by decide +kernel
set_option maxRecDepth 20000 in
theorem dX12_looked_15 : decode cX12_looked 15 = .ok (.getfield 150, 3) := by decide +kernel
set_option maxRecDepth 20000 in
theorem dX12_looked_18 : decode cX12_looked 18 = .ok (.iload_n 1, 1) := by decide +kernel
set_option maxRecDepth 20000 in
theorem dX12_looked_19 : decode cX12_looked 19 = .ok (.iaload, 1) := by decide +kernel
set_option maxRecDepth 20000 in
theorem dX12_looked_20 : decode cX12_looked 20 = .ok (.iaload, 1) := by decide +kernel
set_option maxRecDepth 20000 in
theorem dX12_looked_21 : decode cX12_looked 21 = .ok (.aload_n 0, 1) := by decide +kernel
set_option maxRecDepth 20000 in
theorem dX12_looked_22 : decode cX12_looked 22 = .ok (.getfield 153, 3) := by decide +kernel
set_option maxRecDepth 20000 in
theorem dX12_looked_25 : decode cX12_looked 25 = .ok (.iload_n 1, 1) := by decide +kernel
set_option maxRecDepth 20000 in
theorem dX12_looked_26 : decode cX12_looked 26 = .ok (.iaload, 1) := by decide +kernel
set_option maxRecDepth 20000 in
theorem dX12_looked_27 : decode cX12_looked 27 = .ok (.if_icmp .eq 5, 3) := by decide +kernel
set_option maxRecDepth 20000 in
theorem dX12_looked_30 : decode cX12_looked 30 = .ok (.iload_n 1, 1) := by decide +kernel
set_option maxRecDepth 20000 in
theorem dX12_looked_31 : decode cX12_looked 31 = .ok (.ireturn, 1) := by decide +kernel
set_option maxRecDepth 20000 in
theorem dX12_looked_32 : decode cX12_looked 32 = .ok (.iinc 1 1, 3) := by decide +kernel
set_option maxRecDepth 20000 in
theorem dX12_looked_35 : decode cX12_looked 35 = .ok (.goto (-33), 3) := by decide +kernel
set_option maxRecDepth 20000 in
theorem dX12_looked_38 : decode cX12_looked 38 = .ok (.bipush (-5), 2) := by decide +kernel
set_option maxRecDepth 20000 in
theorem dX12_looked_40 : decode cX12_looked 40 = .ok (.ireturn, 1) := by decide +kernel
set_option maxRecDepth 20000 in
theorem kt_X12_looked_0 (g : gx_T) : ∀ q ∈ k_X12_looked_0, gx_E g gc_md RX12 cX12_looked 2 (some .int) "looked" q.1 q.2 := List.forall_mem_cons.mpr ⟨(gs_iconst dX12_looked_0 rfl), List.forall_mem_cons.mpr ⟨
  (gs_istore_n dX12_looked_1 rfl), List.forall_mem_cons.mpr ⟨
  (gs_iload_n dX12_looked_2 rfl), List.forall_mem_cons.mpr ⟨
  (gs_aload_n dX12_looked_3 rfl), List.forall_mem_cons.mpr ⟨
  (gs_gf (ref := "GriefCranesModel") dX12_looked_4 (gx_mem 1040 (by decide +kernel) (by decide +kernel)) (Or.inl rfl) gf_12_43), List.forall_mem_cons.mpr ⟨
  (gs_icmp_ge dX12_looked_7 rfl), List.forall_mem_cons.mpr ⟨
  (gs_aload_n dX12_looked_10 rfl), List.forall_mem_cons.mpr ⟨
  (gs_gf (ref := "GriefCranesModel") dX12_looked_11 (gx_mem 1005 (by decide +kernel) (by decide +kernel)) (Or.inl rfl) gf_12_8), List.forall_mem_cons.mpr ⟨
  (gs_aload_n dX12_looked_14 rfl), List.forall_mem_cons.mpr ⟨
  (gs_gf (ref := "GriefCranesModel") dX12_looked_15 (gx_mem 1043 (by decide +kernel) (by decide +kernel)) (Or.inl rfl) gf_12_46), List.forall_mem_cons.mpr ⟨
  (gs_iload_n dX12_looked_18 rfl), List.forall_mem_cons.mpr ⟨
  (gs_iaload dX12_looked_19), List.forall_mem_cons.mpr ⟨
  (gs_iaload dX12_looked_20), List.forall_mem_cons.mpr ⟨
  (gs_aload_n dX12_looked_21 rfl), List.forall_mem_cons.mpr ⟨
  (gs_gf (ref := "GriefCranesModel") dX12_looked_22 (gx_mem 1044 (by decide +kernel) (by decide +kernel)) (Or.inl rfl) gf_12_47), List.forall_mem_cons.mpr ⟨
  (gs_iload_n dX12_looked_25 rfl), List.forall_mem_cons.mpr ⟨
  (gs_iaload dX12_looked_26), List.forall_mem_cons.mpr ⟨
  (gs_icmp_eq dX12_looked_27 rfl), List.forall_mem_cons.mpr ⟨
  (gs_iload_n dX12_looked_30 rfl), List.forall_mem_cons.mpr ⟨
  (gs_ri dX12_looked_31), List.forall_mem_cons.mpr ⟨
  (gs_iinc dX12_looked_32), List.forall_mem_cons.mpr ⟨
  (gs_goto dX12_looked_35 rfl), List.forall_mem_cons.mpr ⟨
  (gs_bipush dX12_looked_38 rfl), List.forall_mem_cons.mpr ⟨
  (gs_ri dX12_looked_40), fun _ h => absurd h List.not_mem_nil⟩⟩⟩⟩⟩⟩⟩⟩⟩⟩⟩⟩⟩⟩⟩⟩⟩⟩⟩⟩⟩⟩⟩⟩
theorem kt_X12_looked (g : gx_T) : ∀ q ∈ k_X12_looked, gx_E g gc_md RX12 cX12_looked 2 (some .int) "looked" q.1 q.2 := kt_X12_looked_0 g
set_option maxRecDepth 20000 in
theorem dX12_judge_0 : decode cX12_judge 0 = .ok (.aload_n 0, 1) := by decide +kernel
set_option maxRecDepth 20000 in
theorem dX12_judge_1 : decode cX12_judge 1 = .ok (.iload_n 1, 1) := by decide +kernel
set_option maxRecDepth 20000 in
theorem dX12_judge_2 : decode cX12_judge 2 = .ok (.invokevirtual 425, 3) := by decide +kernel
set_option maxRecDepth 20000 in
theorem dX12_judge_5 : decode cX12_judge 5 = .ok (.ifCond .ne 5, 3) := by decide +kernel
set_option maxRecDepth 20000 in
theorem dX12_judge_8 : decode cX12_judge 8 = .ok (.iconst (-1), 1) := by decide +kernel
set_option maxRecDepth 20000 in
theorem dX12_judge_9 : decode cX12_judge 9 = .ok (.ireturn, 1) := by decide +kernel
set_option maxRecDepth 20000 in
theorem dX12_judge_10 : decode cX12_judge 10 = .ok (.aload_n 0, 1) := by decide +kernel
set_option maxRecDepth 20000 in
theorem dX12_judge_11 : decode cX12_judge 11 = .ok (.getfield 238, 3) := by decide +kernel
set_option maxRecDepth 20000 in
theorem dX12_judge_14 : decode cX12_judge 14 = .ok (.iload_n 1, 1) := by decide +kernel
set_option maxRecDepth 20000 in
theorem dX12_judge_15 : decode cX12_judge 15 = .ok (.iaload, 1) := by decide +kernel
set_option maxRecDepth 20000 in
theorem dX12_judge_16 : decode cX12_judge 16 = .ok (.ifCond .le 6, 3) := by decide +kernel
set_option maxRecDepth 20000 in
theorem dX12_judge_19 : decode cX12_judge 19 = .ok (.bipush (-12), 2) := by decide +kernel
set_option maxRecDepth 20000 in
theorem dX12_judge_21 : decode cX12_judge 21 = .ok (.ireturn, 1) := by decide +kernel
set_option maxRecDepth 20000 in
theorem dX12_judge_22 : decode cX12_judge 22 = .ok (.iconst 0, 1) := by decide +kernel
set_option maxRecDepth 20000 in
theorem dX12_judge_23 : decode cX12_judge 23 = .ok (.istore_n 3, 1) := by decide +kernel
set_option maxRecDepth 20000 in
theorem dX12_judge_24 : decode cX12_judge 24 = .ok (.iload_n 3, 1) := by decide +kernel
set_option maxRecDepth 20000 in
theorem dX12_judge_25 : decode cX12_judge 25 = .ok (.aload_n 0, 1) := by decide +kernel
set_option maxRecDepth 20000 in
theorem dX12_judge_26 : decode cX12_judge 26 = .ok (.getfield 13, 3) := by decide +kernel
set_option maxRecDepth 20000 in
theorem dX12_judge_29 : decode cX12_judge 29 = .ok (.if_icmp .ge 67, 3) := by decide +kernel
set_option maxRecDepth 20000 in
theorem dX12_judge_32 : decode cX12_judge 32 = .ok (.aload_n 0, 1) := by decide +kernel
set_option maxRecDepth 20000 in
theorem dX12_judge_33 : decode cX12_judge 33 = .ok (.getfield 238, 3) := by decide +kernel
set_option maxRecDepth 20000 in
theorem dX12_judge_36 : decode cX12_judge 36 = .ok (.iload_n 1, 1) := by decide +kernel
set_option maxRecDepth 20000 in
theorem dX12_judge_37 : decode cX12_judge 37 = .ok (.iaload, 1) := by decide +kernel
set_option maxRecDepth 20000 in
theorem dX12_judge_38 : decode cX12_judge 38 = .ok (.ifCond .lt 21, 3) := by decide +kernel
set_option maxRecDepth 20000 in
theorem dX12_judge_41 : decode cX12_judge 41 = .ok (.iload_n 2, 1) := by decide +kernel
set_option maxRecDepth 20000 in
theorem dX12_judge_42 : decode cX12_judge 42 = .ok (.ifCond .lt 17, 3) := by decide +kernel
set_option maxRecDepth 20000 in
theorem dX12_judge_45 : decode cX12_judge 45 = .ok (.iload_n 2, 1) := by decide +kernel
set_option maxRecDepth 20000 in
theorem dX12_judge_46 : decode cX12_judge 46 = .ok (.aload_n 0, 1) := by decide +kernel
set_option maxRecDepth 20000 in
theorem dX12_judge_47 : decode cX12_judge 47 = .ok (.getfield 241, 3) := by decide +kernel
set_option maxRecDepth 20000 in
theorem dX12_judge_50 : decode cX12_judge 50 = .ok (.iload_n 1, 1) := by decide +kernel
set_option maxRecDepth 20000 in
theorem dX12_judge_51 : decode cX12_judge 51 = .ok (.iaload, 1) := by decide +kernel
set_option maxRecDepth 20000 in
theorem dX12_judge_52 : decode cX12_judge 52 = .ok (.iload_n 3, 1) := by decide +kernel
set_option maxRecDepth 20000 in
theorem dX12_judge_53 : decode cX12_judge 53 = .ok (.isub, 1) := by decide +kernel
set_option maxRecDepth 20000 in
theorem dX12_judge_54 : decode cX12_judge 54 = .ok (.iconst 1, 1) := by decide +kernel
set_option maxRecDepth 20000 in
theorem dX12_judge_55 : decode cX12_judge 55 = .ok (.isub, 1) := by decide +kernel
set_option maxRecDepth 20000 in
theorem dX12_judge_56 : decode cX12_judge 56 = .ok (.if_icmp .le 8, 3) := by decide +kernel
set_option maxRecDepth 20000 in
theorem dX12_judge_59 : decode cX12_judge 59 = .ok (.bipush 100, 2) := by decide +kernel
set_option maxRecDepth 20000 in
theorem dX12_judge_61 : decode cX12_judge 61 = .ok (.iload_n 3, 1) := by decide +kernel
set_option maxRecDepth 20000 in
theorem dX12_judge_62 : decode cX12_judge 62 = .ok (.iadd, 1) := by decide +kernel
set_option maxRecDepth 20000 in
theorem dX12_judge_63 : decode cX12_judge 63 = .ok (.ireturn, 1) := by decide +kernel
set_option maxRecDepth 20000 in
theorem dX12_judge_64 : decode cX12_judge 64 = .ok (.aload_n 0, 1) := by decide +kernel
set_option maxRecDepth 20000 in
theorem dX12_judge_65 : decode cX12_judge 65 = .ok (.getfield 244, 3) := by decide +kernel
set_option maxRecDepth 20000 in
theorem dX12_judge_68 : decode cX12_judge 68 = .ok (.bipush 60, 2) := by decide +kernel
set_option maxRecDepth 20000 in
theorem dX12_judge_70 : decode cX12_judge 70 = .ok (.iload_n 1, 1) := by decide +kernel
set_option maxRecDepth 20000 in
theorem dX12_judge_71 : decode cX12_judge 71 = .ok (.imul, 1) := by decide +kernel
set_option maxRecDepth 20000 in
theorem dX12_judge_72 : decode cX12_judge 72 = .ok (.iload_n 2, 1) := by decide +kernel
set_option maxRecDepth 20000 in
theorem dX12_judge_73 : decode cX12_judge 73 = .ok (.iadd, 1) := by decide +kernel
set_option maxRecDepth 20000 in
theorem dX12_judge_74 : decode cX12_judge 74 = .ok (.iload_n 3, 1) := by decide +kernel
set_option maxRecDepth 20000 in
theorem dX12_judge_75 : decode cX12_judge 75 = .ok (.iadd, 1) := by decide +kernel
set_option maxRecDepth 20000 in
theorem dX12_judge_76 : decode cX12_judge 76 = .ok (.laload, 1) := by decide +kernel
set_option maxRecDepth 20000 in
theorem dX12_judge_77 : decode cX12_judge 77 = .ok (.aload_n 0, 1) := by decide +kernel
set_option maxRecDepth 20000 in
theorem dX12_judge_78 : decode cX12_judge 78 = .ok (.getfield 35, 3) := by decide +kernel
set_option maxRecDepth 20000 in
theorem dX12_judge_81 : decode cX12_judge 81 = .ok (.iload_n 3, 1) := by decide +kernel
set_option maxRecDepth 20000 in
theorem dX12_judge_82 : decode cX12_judge 82 = .ok (.iaload, 1) := by decide +kernel
set_option maxRecDepth 20000 in
theorem dX12_judge_83 : decode cX12_judge 83 = .ok (.i2l, 1) := by decide +kernel
set_option maxRecDepth 20000 in
theorem dX12_judge_84 : decode cX12_judge 84 = .ok (.lcmp, 1) := by decide +kernel
set_option maxRecDepth 20000 in
theorem dX12_judge_85 : decode cX12_judge 85 = .ok (.ifCond .eq 5, 3) := by decide +kernel
set_option maxRecDepth 20000 in
theorem dX12_judge_88 : decode cX12_judge 88 = .ok (.iload_n 3, 1) := by decide +kernel
set_option maxRecDepth 20000 in
theorem dX12_judge_89 : decode cX12_judge 89 = .ok (.ireturn, 1) := by decide +kernel
set_option maxRecDepth 20000 in
theorem dX12_judge_90 : decode cX12_judge 90 = .ok (.iinc 3 1, 3) := by decide +kernel
set_option maxRecDepth 20000 in
theorem dX12_judge_93 : decode cX12_judge 93 = .ok (.goto (-69), 3) := by decide +kernel
set_option maxRecDepth 20000 in
theorem dX12_judge_96 : decode cX12_judge 96 = .ok (.bipush (-5), 2) := by decide +kernel
set_option maxRecDepth 20000 in
theorem dX12_judge_98 : decode cX12_judge 98 = .ok (.ireturn, 1) := by decide +kernel
set_option maxRecDepth 20000 in
theorem kt_X12_judge_0 (g : gx_T) : ∀ q ∈ k_X12_judge_0, gx_E g gc_md RX12 cX12_judge 4 (some .int) "judge" q.1 q.2 := List.forall_mem_cons.mpr ⟨(gs_aload_n dX12_judge_0 rfl), List.forall_mem_cons.mpr ⟨
  (gs_iload_n dX12_judge_1 rfl), List.forall_mem_cons.mpr ⟨
  (gs_cv dX12_judge_2 (fun q hq => by
      simp only [List.mem_cons, List.not_mem_nil, or_false] at hq
      subst hq
      exact Or.inl ⟨_, rfl, by decide, by decide +kernel, by decide +kernel, List.forall_mem_cons.mpr ⟨gx_mem 1535 (by decide +kernel) (by decide +kernel), List.forall_mem_cons.mpr ⟨gx_mem 1537 (by decide +kernel) (by decide +kernel), List.forall_mem_cons.mpr ⟨gx_mem 73 (by decide +kernel) (by decide +kernel), List.forall_mem_cons.mpr ⟨gx_mem 96 (by decide +kernel) (by decide +kernel), List.forall_mem_cons.mpr ⟨cw_1538, fun _ h => absurd h List.not_mem_nil⟩⟩⟩⟩⟩⟩)), List.forall_mem_cons.mpr ⟨
  (gs_if_ne dX12_judge_5 rfl), List.forall_mem_cons.mpr ⟨
  (gs_iconst dX12_judge_8 rfl), List.forall_mem_cons.mpr ⟨
  (gs_ri dX12_judge_9), List.forall_mem_cons.mpr ⟨
  (gs_aload_n dX12_judge_10 rfl), List.forall_mem_cons.mpr ⟨
  (gs_gf (ref := "GriefCranesModel") dX12_judge_11 (gx_mem 1072 (by decide +kernel) (by decide +kernel)) (Or.inl rfl) gf_12_75), List.forall_mem_cons.mpr ⟨
  (gs_iload_n dX12_judge_14 rfl), List.forall_mem_cons.mpr ⟨
  (gs_iaload dX12_judge_15), List.forall_mem_cons.mpr ⟨
  (gs_if_le dX12_judge_16 rfl), List.forall_mem_cons.mpr ⟨
  (gs_bipush dX12_judge_19 rfl), List.forall_mem_cons.mpr ⟨
  (gs_ri dX12_judge_21), List.forall_mem_cons.mpr ⟨
  (gs_iconst dX12_judge_22 rfl), List.forall_mem_cons.mpr ⟨
  (gs_istore_n dX12_judge_23 rfl), List.forall_mem_cons.mpr ⟨
  (gs_iload_n dX12_judge_24 rfl), List.forall_mem_cons.mpr ⟨
  (gs_aload_n dX12_judge_25 rfl), List.forall_mem_cons.mpr ⟨
  (gs_gf (ref := "GriefCranesModel") dX12_judge_26 (gx_mem 998 (by decide +kernel) (by decide +kernel)) (Or.inl rfl) gf_12_1), List.forall_mem_cons.mpr ⟨
  (gs_icmp_ge dX12_judge_29 rfl), List.forall_mem_cons.mpr ⟨
  (gs_aload_n dX12_judge_32 rfl), List.forall_mem_cons.mpr ⟨
  (gs_gf (ref := "GriefCranesModel") dX12_judge_33 (gx_mem 1072 (by decide +kernel) (by decide +kernel)) (Or.inl rfl) gf_12_75), List.forall_mem_cons.mpr ⟨
  (gs_iload_n dX12_judge_36 rfl), List.forall_mem_cons.mpr ⟨
  (gs_iaload dX12_judge_37), List.forall_mem_cons.mpr ⟨
  (gs_if_lt dX12_judge_38 rfl), List.forall_mem_cons.mpr ⟨
  (gs_iload_n dX12_judge_41 rfl), List.forall_mem_cons.mpr ⟨
  (gs_if_lt dX12_judge_42 rfl), List.forall_mem_cons.mpr ⟨
  (gs_iload_n dX12_judge_45 rfl), List.forall_mem_cons.mpr ⟨
  (gs_aload_n dX12_judge_46 rfl), List.forall_mem_cons.mpr ⟨
  (gs_gf (ref := "GriefCranesModel") dX12_judge_47 (gx_mem 1073 (by decide +kernel) (by decide +kernel)) (Or.inl rfl) gf_12_76), List.forall_mem_cons.mpr ⟨
  (gs_iload_n dX12_judge_50 rfl), List.forall_mem_cons.mpr ⟨
  (gs_iaload dX12_judge_51), List.forall_mem_cons.mpr ⟨
  (gs_iload_n dX12_judge_52 rfl), fun _ h => absurd h List.not_mem_nil⟩⟩⟩⟩⟩⟩⟩⟩⟩⟩⟩⟩⟩⟩⟩⟩⟩⟩⟩⟩⟩⟩⟩⟩⟩⟩⟩⟩⟩⟩⟩⟩
set_option maxRecDepth 20000 in
theorem kt_X12_judge_1 (g : gx_T) : ∀ q ∈ k_X12_judge_1, gx_E g gc_md RX12 cX12_judge 4 (some .int) "judge" q.1 q.2 := List.forall_mem_cons.mpr ⟨(gs_isub dX12_judge_53), List.forall_mem_cons.mpr ⟨
  (gs_iconst dX12_judge_54 rfl), List.forall_mem_cons.mpr ⟨
  (gs_isub dX12_judge_55), List.forall_mem_cons.mpr ⟨
  (gs_icmp_le dX12_judge_56 rfl), List.forall_mem_cons.mpr ⟨
  (gs_bipush dX12_judge_59 rfl), List.forall_mem_cons.mpr ⟨
  (gs_iload_n dX12_judge_61 rfl), List.forall_mem_cons.mpr ⟨
  (gs_iadd dX12_judge_62), List.forall_mem_cons.mpr ⟨
  (gs_ri dX12_judge_63), List.forall_mem_cons.mpr ⟨
  (gs_aload_n dX12_judge_64 rfl), List.forall_mem_cons.mpr ⟨
  (gs_gf (ref := "GriefCranesModel") dX12_judge_65 (gx_mem 1074 (by decide +kernel) (by decide +kernel)) (Or.inl rfl) gf_12_77), List.forall_mem_cons.mpr ⟨
  (gs_bipush dX12_judge_68 rfl), List.forall_mem_cons.mpr ⟨
  (gs_iload_n dX12_judge_70 rfl), List.forall_mem_cons.mpr ⟨
  (gs_imul dX12_judge_71), List.forall_mem_cons.mpr ⟨
  (gs_iload_n dX12_judge_72 rfl), List.forall_mem_cons.mpr ⟨
  (gs_iadd dX12_judge_73), List.forall_mem_cons.mpr ⟨
  (gs_iload_n dX12_judge_74 rfl), List.forall_mem_cons.mpr ⟨
  (gs_iadd dX12_judge_75), List.forall_mem_cons.mpr ⟨
  (gs_laload dX12_judge_76), List.forall_mem_cons.mpr ⟨
  (gs_aload_n dX12_judge_77 rfl), List.forall_mem_cons.mpr ⟨
  (gs_gf (ref := "GriefCranesModel") dX12_judge_78 (gx_mem 1005 (by decide +kernel) (by decide +kernel)) (Or.inl rfl) gf_12_8), List.forall_mem_cons.mpr ⟨
  (gs_iload_n dX12_judge_81 rfl), List.forall_mem_cons.mpr ⟨
  (gs_iaload dX12_judge_82), List.forall_mem_cons.mpr ⟨
  (gs_i2l dX12_judge_83), List.forall_mem_cons.mpr ⟨
  (gs_lcmp dX12_judge_84), List.forall_mem_cons.mpr ⟨
  (gs_if_eq dX12_judge_85 rfl), List.forall_mem_cons.mpr ⟨
  (gs_iload_n dX12_judge_88 rfl), List.forall_mem_cons.mpr ⟨
  (gs_ri dX12_judge_89), List.forall_mem_cons.mpr ⟨
  (gs_iinc dX12_judge_90), List.forall_mem_cons.mpr ⟨
  (gs_goto dX12_judge_93 rfl), List.forall_mem_cons.mpr ⟨
  (gs_bipush dX12_judge_96 rfl), List.forall_mem_cons.mpr ⟨
  (gs_ri dX12_judge_98), fun _ h => absurd h List.not_mem_nil⟩⟩⟩⟩⟩⟩⟩⟩⟩⟩⟩⟩⟩⟩⟩⟩⟩⟩⟩⟩⟩⟩⟩⟩⟩⟩⟩⟩⟩⟩⟩
theorem kt_X12_judge (g : gx_T) : ∀ q ∈ k_X12_judge, gx_E g gc_md RX12 cX12_judge 4 (some .int) "judge" q.1 q.2 := List.forall_mem_append.mpr ⟨kt_X12_judge_0 g, kt_X12_judge_1 g⟩
set_option maxRecDepth 20000 in
theorem dX12_image_0 : decode cX12_image 0 = .ok (.aload_n 0, 1) := by decide +kernel
set_option maxRecDepth 20000 in
theorem dX12_image_1 : decode cX12_image 1 = .ok (.iconst 1, 1) := by decide +kernel
set_option maxRecDepth 20000 in
theorem dX12_image_2 : decode cX12_image 2 = .ok (.putfield 156, 3) := by decide +kernel
set_option maxRecDepth 20000 in
theorem dX12_image_5 : decode cX12_image 5 = .ok (.aload_n 0, 1) := by decide +kernel
set_option maxRecDepth 20000 in
theorem dX12_image_6 : decode cX12_image 6 = .ok (.aload_n 0, 1) := by decide +kernel
set_option maxRecDepth 20000 in
theorem dX12_image_7 : decode cX12_image 7 = .ok (.getfield 53, 3) := by decide +kernel
set_option maxRecDepth 20000 in
theorem dX12_image_10 : decode cX12_image 10 = .ok (.putfield 160, 3) := by decide +kernel
set_option maxRecDepth 20000 in
theorem dX12_image_13 : decode cX12_image 13 = .ok (.aload_n 0, 1) := by decide +kernel
set_option maxRecDepth 20000 in
theorem dX12_image_14 : decode cX12_image 14 = .ok (.aload_n 0, 1) := by decide +kernel
set_option maxRecDepth 20000 in
theorem dX12_image_15 : decode cX12_image 15 = .ok (.getfield 7, 3) := by decide +kernel
set_option maxRecDepth 20000 in
theorem dX12_image_18 : decode cX12_image 18 = .ok (.putfield 163, 3) := by decide +kernel
set_option maxRecDepth 20000 in
theorem dX12_image_21 : decode cX12_image 21 = .ok (.aload_n 0, 1) := by decide +kernel
set_option maxRecDepth 20000 in
theorem dX12_image_22 : decode cX12_image 22 = .ok (.aload_n 0, 1) := by decide +kernel
set_option maxRecDepth 20000 in
theorem dX12_image_23 : decode cX12_image 23 = .ok (.getfield 13, 3) := by decide +kernel
set_option maxRecDepth 20000 in
theorem dX12_image_26 : decode cX12_image 26 = .ok (.putfield 166, 3) := by decide +kernel
set_option maxRecDepth 20000 in
theorem dX12_image_29 : decode cX12_image 29 = .ok (.aload_n 0, 1) := by decide +kernel
set_option maxRecDepth 20000 in
theorem dX12_image_30 : decode cX12_image 30 = .ok (.aload_n 0, 1) := by decide +kernel
set_option maxRecDepth 20000 in
theorem dX12_image_31 : decode cX12_image 31 = .ok (.getfield 16, 3) := by decide +kernel
set_option maxRecDepth 20000 in
theorem dX12_image_34 : decode cX12_image 34 = .ok (.putfield 169, 3) := by decide +kernel
set_option maxRecDepth 20000 in
theorem dX12_image_37 : decode cX12_image 37 = .ok (.aload_n 0, 1) := by decide +kernel
set_option maxRecDepth 20000 in
theorem dX12_image_38 : decode cX12_image 38 = .ok (.aload_n 0, 1) := by decide +kernel
set_option maxRecDepth 20000 in
theorem dX12_image_39 : decode cX12_image 39 = .ok (.getfield 126, 3) := by decide +kernel
set_option maxRecDepth 20000 in
theorem dX12_image_42 : decode cX12_image 42 = .ok (.putfield 172, 3) := by decide +kernel
set_option maxRecDepth 20000 in
theorem dX12_image_45 : decode cX12_image 45 = .ok (.aload_n 0, 1) := by decide +kernel
set_option maxRecDepth 20000 in
theorem dX12_image_46 : decode cX12_image 46 = .ok (.aload_n 0, 1) := by decide +kernel
set_option maxRecDepth 20000 in
theorem dX12_image_47 : decode cX12_image 47 = .ok (.getfield 138, 3) := by decide +kernel
set_option maxRecDepth 20000 in
theorem dX12_image_50 : decode cX12_image 50 = .ok (.putfield 175, 3) := by decide +kernel
set_option maxRecDepth 20000 in
theorem dX12_image_53 : decode cX12_image 53 = .ok (.aload_n 0, 1) := by decide +kernel
set_option maxRecDepth 20000 in
theorem dX12_image_54 : decode cX12_image 54 = .ok (.aload_n 0, 1) := by decide +kernel
set_option maxRecDepth 20000 in
theorem dX12_image_55 : decode cX12_image 55 = .ok (.getfield 141, 3) := by decide +kernel
set_option maxRecDepth 20000 in
theorem dX12_image_58 : decode cX12_image 58 = .ok (.putfield 178, 3) := by decide +kernel
set_option maxRecDepth 20000 in
theorem dX12_image_61 : decode cX12_image 61 = .ok (.iconst 0, 1) := by decide +kernel
set_option maxRecDepth 20000 in
theorem dX12_image_62 : decode cX12_image 62 = .ok (.istore_n 1, 1) := by decide +kernel
set_option maxRecDepth 20000 in
theorem dX12_image_63 : decode cX12_image 63 = .ok (.iload_n 1, 1) := by decide +kernel
set_option maxRecDepth 20000 in
theorem dX12_image_64 : decode cX12_image 64 = .ok (.iconst 4, 1) := by decide +kernel
set_option maxRecDepth 20000 in
theorem dX12_image_65 : decode cX12_image 65 = .ok (.if_icmp .ge 21, 3) := by decide +kernel
set_option maxRecDepth 20000 in
theorem dX12_image_68 : decode cX12_image 68 = .ok (.aload_n 0, 1) := by decide +kernel
set_option maxRecDepth 20000 in
theorem dX12_image_69 : decode cX12_image 69 = .ok (.getfield 181, 3) := by decide +kernel
set_option maxRecDepth 20000 in
theorem dX12_image_72 : decode cX12_image 72 = .ok (.iload_n 1, 1) := by decide +kernel
set_option maxRecDepth 20000 in
theorem dX12_image_73 : decode cX12_image 73 = .ok (.aload_n 0, 1) := by decide +kernel
set_option maxRecDepth 20000 in
theorem dX12_image_74 : decode cX12_image 74 = .ok (.getfield 19, 3) := by decide +kernel
set_option maxRecDepth 20000 in
theorem dX12_image_77 : decode cX12_image 77 = .ok (.iload_n 1, 1) := by decide +kernel
set_option maxRecDepth 20000 in
theorem dX12_image_78 : decode cX12_image 78 = .ok (.iaload, 1) := by decide +kernel
set_option maxRecDepth 20000 in
theorem dX12_image_79 : decode cX12_image 79 = .ok (.iastore, 1) := by decide +kernel
set_option maxRecDepth 20000 in
theorem dX12_image_80 : decode cX12_image 80 = .ok (.iinc 1 1, 3) := by decide +kernel
set_option maxRecDepth 20000 in
theorem dX12_image_83 : decode cX12_image 83 = .ok (.goto (-20), 3) := by decide +kernel
set_option maxRecDepth 20000 in
theorem dX12_image_86 : decode cX12_image 86 = .ok (.iconst 0, 1) := by decide +kernel
set_option maxRecDepth 20000 in
theorem dX12_image_87 : decode cX12_image 87 = .ok (.istore_n 1, 1) := by decide +kernel
set_option maxRecDepth 20000 in
theorem dX12_image_88 : decode cX12_image 88 = .ok (.iload_n 1, 1) := by decide +kernel
set_option maxRecDepth 20000 in
theorem dX12_image_89 : decode cX12_image 89 = .ok (.bipush 6, 2) := by decide +kernel
set_option maxRecDepth 20000 in
theorem dX12_image_91 : decode cX12_image 91 = .ok (.if_icmp .ge 45, 3) := by decide +kernel
set_option maxRecDepth 20000 in
theorem dX12_image_94 : decode cX12_image 94 = .ok (.aload_n 0, 1) := by decide +kernel
set_option maxRecDepth 20000 in
theorem dX12_image_95 : decode cX12_image 95 = .ok (.getfield 184, 3) := by decide +kernel
set_option maxRecDepth 20000 in
theorem dX12_image_98 : decode cX12_image 98 = .ok (.iload_n 1, 1) := by decide +kernel
set_option maxRecDepth 20000 in
theorem dX12_image_99 : decode cX12_image 99 = .ok (.aload_n 0, 1) := by decide +kernel
set_option maxRecDepth 20000 in
theorem dX12_image_100 : decode cX12_image 100 = .ok (.getfield 23, 3) := by decide +kernel
set_option maxRecDepth 20000 in
theorem dX12_image_103 : decode cX12_image 103 = .ok (.iload_n 1, 1) := by decide +kernel
set_option maxRecDepth 20000 in
theorem dX12_image_104 : decode cX12_image 104 = .ok (.iaload, 1) := by decide +kernel
set_option maxRecDepth 20000 in
theorem dX12_image_105 : decode cX12_image 105 = .ok (.iastore, 1) := by decide +kernel
set_option maxRecDepth 20000 in
theorem dX12_image_106 : decode cX12_image 106 = .ok (.aload_n 0, 1) := by decide +kernel
set_option maxRecDepth 20000 in
theorem dX12_image_107 : decode cX12_image 107 = .ok (.getfield 187, 3) := by decide +kernel
set_option maxRecDepth 20000 in
theorem dX12_image_110 : decode cX12_image 110 = .ok (.iload_n 1, 1) := by decide +kernel
set_option maxRecDepth 20000 in
theorem dX12_image_111 : decode cX12_image 111 = .ok (.aload_n 0, 1) := by decide +kernel
set_option maxRecDepth 20000 in
theorem dX12_image_112 : decode cX12_image 112 = .ok (.getfield 26, 3) := by decide +kernel
set_option maxRecDepth 20000 in
theorem dX12_image_115 : decode cX12_image 115 = .ok (.iload_n 1, 1) := by decide +kernel
set_option maxRecDepth 20000 in
theorem dX12_image_116 : decode cX12_image 116 = .ok (.iaload, 1) := by decide +kernel
set_option maxRecDepth 20000 in
theorem dX12_image_117 : decode cX12_image 117 = .ok (.iastore, 1) := by decide +kernel
set_option maxRecDepth 20000 in
theorem dX12_image_118 : decode cX12_image 118 = .ok (.aload_n 0, 1) := by decide +kernel
set_option maxRecDepth 20000 in
theorem dX12_image_119 : decode cX12_image 119 = .ok (.getfield 190, 3) := by decide +kernel
set_option maxRecDepth 20000 in
theorem dX12_image_122 : decode cX12_image 122 = .ok (.iload_n 1, 1) := by decide +kernel
set_option maxRecDepth 20000 in
theorem dX12_image_123 : decode cX12_image 123 = .ok (.aload_n 0, 1) := by decide +kernel
set_option maxRecDepth 20000 in
theorem dX12_image_124 : decode cX12_image 124 = .ok (.getfield 29, 3) := by decide +kernel
set_option maxRecDepth 20000 in
theorem dX12_image_127 : decode cX12_image 127 = .ok (.iload_n 1, 1) := by decide +kernel
set_option maxRecDepth 20000 in
theorem dX12_image_128 : decode cX12_image 128 = .ok (.iaload, 1) := by decide +kernel
set_option maxRecDepth 20000 in
theorem dX12_image_129 : decode cX12_image 129 = .ok (.iastore, 1) := by decide +kernel
set_option maxRecDepth 20000 in
theorem dX12_image_130 : decode cX12_image 130 = .ok (.iinc 1 1, 3) := by decide +kernel
set_option maxRecDepth 20000 in
theorem dX12_image_133 : decode cX12_image 133 = .ok (.goto (-45), 3) := by decide +kernel
set_option maxRecDepth 20000 in
theorem dX12_image_136 : decode cX12_image 136 = .ok (.iconst 0, 1) := by decide +kernel
set_option maxRecDepth 20000 in
theorem dX12_image_137 : decode cX12_image 137 = .ok (.istore_n 1, 1) := by decide +kernel
set_option maxRecDepth 20000 in
theorem dX12_image_138 : decode cX12_image 138 = .ok (.iload_n 1, 1) := by decide +kernel
set_option maxRecDepth 20000 in
theorem dX12_image_139 : decode cX12_image 139 = .ok (.bipush 24, 2) := by decide +kernel
set_option maxRecDepth 20000 in
theorem dX12_image_141 : decode cX12_image 141 = .ok (.if_icmp .ge 21, 3) := by decide +kernel
set_option maxRecDepth 20000 in
theorem dX12_image_144 : decode cX12_image 144 = .ok (.aload_n 0, 1) := by decide +kernel
set_option maxRecDepth 20000 in
theorem dX12_image_145 : decode cX12_image 145 = .ok (.getfield 193, 3) := by decide +kernel
set_option maxRecDepth 20000 in
theorem dX12_image_148 : decode cX12_image 148 = .ok (.iload_n 1, 1) := by decide +kernel
set_option maxRecDepth 20000 in
theorem dX12_image_149 : decode cX12_image 149 = .ok (.aload_n 0, 1) := by decide +kernel
set_option maxRecDepth 20000 in
theorem dX12_image_150 : decode cX12_image 150 = .ok (.getfield 32, 3) := by decide +kernel
set_option maxRecDepth 20000 in
theorem dX12_image_153 : decode cX12_image 153 = .ok (.iload_n 1, 1) := by decide +kernel
set_option maxRecDepth 20000 in
theorem dX12_image_154 : decode cX12_image 154 = .ok (.iaload, 1) := by decide +kernel
set_option maxRecDepth 20000 in
theorem dX12_image_155 : decode cX12_image 155 = .ok (.iastore, 1) := by decide +kernel
set_option maxRecDepth 20000 in
theorem dX12_image_156 : decode cX12_image 156 = .ok (.iinc 1 1, 3) := by decide +kernel
set_option maxRecDepth 20000 in
theorem dX12_image_159 : decode cX12_image 159 = .ok (.goto (-21), 3) := by decide +kernel
set_option maxRecDepth 20000 in
theorem dX12_image_162 : decode cX12_image 162 = .ok (.iconst 0, 1) := by decide +kernel
set_option maxRecDepth 20000 in
theorem dX12_image_163 : decode cX12_image 163 = .ok (.istore_n 1, 1) := by decide +kernel
set_option maxRecDepth 20000 in
theorem dX12_image_164 : decode cX12_image 164 = .ok (.iload_n 1, 1) := by decide +kernel
set_option maxRecDepth 20000 in
theorem dX12_image_165 : decode cX12_image 165 = .ok (.bipush 8, 2) := by decide +kernel
set_option maxRecDepth 20000 in
theorem dX12_image_167 : decode cX12_image 167 = .ok (.if_icmp .ge 93, 3) := by decide +kernel
set_option maxRecDepth 20000 in
theorem dX12_image_170 : decode cX12_image 170 = .ok (.aload_n 0, 1) := by decide +kernel
set_option maxRecDepth 20000 in
theorem dX12_image_171 : decode cX12_image 171 = .ok (.getfield 196, 3) := by decide +kernel
set_option maxRecDepth 20000 in
theorem dX12_image_174 : decode cX12_image 174 = .ok (.iload_n 1, 1) := by decide +kernel
set_option maxRecDepth 20000 in
theorem dX12_image_175 : decode cX12_image 175 = .ok (.aload_n 0, 1) := by decide +kernel
set_option maxRecDepth 20000 in
theorem dX12_image_176 : decode cX12_image 176 = .ok (.getfield 35, 3) := by decide +kernel
set_option maxRecDepth 20000 in
theorem dX12_image_179 : decode cX12_image 179 = .ok (.iload_n 1, 1) := by decide +kernel
set_option maxRecDepth 20000 in
theorem dX12_image_180 : decode cX12_image 180 = .ok (.iaload, 1) := by decide +kernel
set_option maxRecDepth 20000 in
theorem dX12_image_181 : decode cX12_image 181 = .ok (.iastore, 1) := by decide +kernel
set_option maxRecDepth 20000 in
theorem dX12_image_182 : decode cX12_image 182 = .ok (.aload_n 0, 1) := by decide +kernel
set_option maxRecDepth 20000 in
theorem dX12_image_183 : decode cX12_image 183 = .ok (.getfield 199, 3) := by decide +kernel
set_option maxRecDepth 20000 in
theorem dX12_image_186 : decode cX12_image 186 = .ok (.iload_n 1, 1) := by decide +kernel
set_option maxRecDepth 20000 in
theorem dX12_image_187 : decode cX12_image 187 = .ok (.aload_n 0, 1) := by decide +kernel
set_option maxRecDepth 20000 in
theorem dX12_image_188 : decode cX12_image 188 = .ok (.getfield 38, 3) := by decide +kernel
set_option maxRecDepth 20000 in
theorem dX12_image_191 : decode cX12_image 191 = .ok (.iload_n 1, 1) := by decide +kernel
set_option maxRecDepth 20000 in
theorem dX12_image_192 : decode cX12_image 192 = .ok (.iaload, 1) := by decide +kernel
set_option maxRecDepth 20000 in
theorem dX12_image_193 : decode cX12_image 193 = .ok (.iastore, 1) := by decide +kernel
set_option maxRecDepth 20000 in
theorem dX12_image_194 : decode cX12_image 194 = .ok (.aload_n 0, 1) := by decide +kernel
set_option maxRecDepth 20000 in
theorem dX12_image_195 : decode cX12_image 195 = .ok (.getfield 202, 3) := by decide +kernel
set_option maxRecDepth 20000 in
theorem dX12_image_198 : decode cX12_image 198 = .ok (.iload_n 1, 1) := by decide +kernel
set_option maxRecDepth 20000 in
theorem dX12_image_199 : decode cX12_image 199 = .ok (.aload_n 0, 1) := by decide +kernel
set_option maxRecDepth 20000 in
theorem dX12_image_200 : decode cX12_image 200 = .ok (.getfield 41, 3) := by decide +kernel
set_option maxRecDepth 20000 in
theorem dX12_image_203 : decode cX12_image 203 = .ok (.iload_n 1, 1) := by decide +kernel
set_option maxRecDepth 20000 in
theorem dX12_image_204 : decode cX12_image 204 = .ok (.iaload, 1) := by decide +kernel
set_option maxRecDepth 20000 in
theorem dX12_image_205 : decode cX12_image 205 = .ok (.iastore, 1) := by decide +kernel
set_option maxRecDepth 20000 in
theorem dX12_image_206 : decode cX12_image 206 = .ok (.aload_n 0, 1) := by decide +kernel
set_option maxRecDepth 20000 in
theorem dX12_image_207 : decode cX12_image 207 = .ok (.getfield 205, 3) := by decide +kernel
set_option maxRecDepth 20000 in
theorem dX12_image_210 : decode cX12_image 210 = .ok (.iload_n 1, 1) := by decide +kernel
set_option maxRecDepth 20000 in
theorem dX12_image_211 : decode cX12_image 211 = .ok (.aload_n 0, 1) := by decide +kernel
set_option maxRecDepth 20000 in
theorem dX12_image_212 : decode cX12_image 212 = .ok (.getfield 44, 3) := by decide +kernel
set_option maxRecDepth 20000 in
theorem dX12_image_215 : decode cX12_image 215 = .ok (.iload_n 1, 1) := by decide +kernel
set_option maxRecDepth 20000 in
theorem dX12_image_216 : decode cX12_image 216 = .ok (.iaload, 1) := by decide +kernel
set_option maxRecDepth 20000 in
theorem dX12_image_217 : decode cX12_image 217 = .ok (.iastore, 1) := by decide +kernel
set_option maxRecDepth 20000 in
theorem dX12_image_218 : decode cX12_image 218 = .ok (.aload_n 0, 1) := by decide +kernel
set_option maxRecDepth 20000 in
theorem dX12_image_219 : decode cX12_image 219 = .ok (.getfield 208, 3) := by decide +kernel
set_option maxRecDepth 20000 in
theorem dX12_image_222 : decode cX12_image 222 = .ok (.iload_n 1, 1) := by decide +kernel
set_option maxRecDepth 20000 in
theorem dX12_image_223 : decode cX12_image 223 = .ok (.aload_n 0, 1) := by decide +kernel
set_option maxRecDepth 20000 in
theorem dX12_image_224 : decode cX12_image 224 = .ok (.getfield 47, 3) := by decide +kernel
set_option maxRecDepth 20000 in
theorem dX12_image_227 : decode cX12_image 227 = .ok (.iload_n 1, 1) := by decide +kernel
set_option maxRecDepth 20000 in
theorem dX12_image_228 : decode cX12_image 228 = .ok (.iaload, 1) := by decide +kernel
set_option maxRecDepth 20000 in
theorem dX12_image_229 : decode cX12_image 229 = .ok (.iastore, 1) := by decide +kernel
set_option maxRecDepth 20000 in
theorem dX12_image_230 : decode cX12_image 230 = .ok (.aload_n 0, 1) := by decide +kernel
set_option maxRecDepth 20000 in
theorem dX12_image_231 : decode cX12_image 231 = .ok (.getfield 226, 3) := by decide +kernel
set_option maxRecDepth 20000 in
theorem dX12_image_234 : decode cX12_image 234 = .ok (.iload_n 1, 1) := by decide +kernel
set_option maxRecDepth 20000 in
theorem dX12_image_235 : decode cX12_image 235 = .ok (.aload_n 0, 1) := by decide +kernel
set_option maxRecDepth 20000 in
theorem dX12_image_236 : decode cX12_image 236 = .ok (.getfield 150, 3) := by decide +kernel
set_option maxRecDepth 20000 in
theorem dX12_image_239 : decode cX12_image 239 = .ok (.iload_n 1, 1) := by decide +kernel
set_option maxRecDepth 20000 in
theorem dX12_image_240 : decode cX12_image 240 = .ok (.iaload, 1) := by decide +kernel
set_option maxRecDepth 20000 in
theorem dX12_image_241 : decode cX12_image 241 = .ok (.iastore, 1) := by decide +kernel
set_option maxRecDepth 20000 in
theorem dX12_image_242 : decode cX12_image 242 = .ok (.aload_n 0, 1) := by decide +kernel
set_option maxRecDepth 20000 in
theorem dX12_image_243 : decode cX12_image 243 = .ok (.getfield 229, 3) := by decide +kernel
set_option maxRecDepth 20000 in
theorem dX12_image_246 : decode cX12_image 246 = .ok (.iload_n 1, 1) := by decide +kernel
set_option maxRecDepth 20000 in
theorem dX12_image_247 : decode cX12_image 247 = .ok (.aload_n 0, 1) := by decide +kernel
set_option maxRecDepth 20000 in
theorem dX12_image_248 : decode cX12_image 248 = .ok (.getfield 153, 3) := by decide +kernel
set_option maxRecDepth 20000 in
theorem dX12_image_251 : decode cX12_image 251 = .ok (.iload_n 1, 1) := by decide +kernel
set_option maxRecDepth 20000 in
theorem dX12_image_252 : decode cX12_image 252 = .ok (.iaload, 1) := by decide +kernel
set_option maxRecDepth 20000 in
theorem dX12_image_253 : decode cX12_image 253 = .ok (.iastore, 1) := by decide +kernel
set_option maxRecDepth 20000 in
theorem dX12_image_254 : decode cX12_image 254 = .ok (.iinc 1 1, 3) := by decide +kernel
set_option maxRecDepth 20000 in
theorem dX12_image_257 : decode cX12_image 257 = .ok (.goto (-93), 3) := by decide +kernel
set_option maxRecDepth 20000 in
theorem dX12_image_260 : decode cX12_image 260 = .ok (.iconst 0, 1) := by decide +kernel
set_option maxRecDepth 20000 in
theorem dX12_image_261 : decode cX12_image 261 = .ok (.istore_n 1, 1) := by decide +kernel
set_option maxRecDepth 20000 in
theorem dX12_image_262 : decode cX12_image 262 = .ok (.iload_n 1, 1) := by decide +kernel
set_option maxRecDepth 20000 in
theorem dX12_image_263 : decode cX12_image 263 = .ok (.iconst 5, 1) := by decide +kernel
set_option maxRecDepth 20000 in
theorem dX12_image_264 : decode cX12_image 264 = .ok (.if_icmp .ge 45, 3) := by decide +kernel
set_option maxRecDepth 20000 in
theorem dX12_image_267 : decode cX12_image 267 = .ok (.aload_n 0, 1) := by decide +kernel
set_option maxRecDepth 20000 in
theorem dX12_image_268 : decode cX12_image 268 = .ok (.getfield 211, 3) := by decide +kernel
set_option maxRecDepth 20000 in
theorem dX12_image_271 : decode cX12_image 271 = .ok (.iload_n 1, 1) := by decide +kernel
set_option maxRecDepth 20000 in
theorem dX12_image_272 : decode cX12_image 272 = .ok (.aload_n 0, 1) := by decide +kernel
set_option maxRecDepth 20000 in
theorem dX12_image_273 : decode cX12_image 273 = .ok (.getfield 129, 3) := by decide +kernel
set_option maxRecDepth 20000 in
theorem dX12_image_276 : decode cX12_image 276 = .ok (.iload_n 1, 1) := by decide +kernel
set_option maxRecDepth 20000 in
theorem dX12_image_277 : decode cX12_image 277 = .ok (.iaload, 1) := by decide +kernel
set_option maxRecDepth 20000 in
theorem dX12_image_278 : decode cX12_image 278 = .ok (.iastore, 1) := by decide +kernel
set_option maxRecDepth 20000 in
theorem dX12_image_279 : decode cX12_image 279 = .ok (.aload_n 0, 1) := by decide +kernel
set_option maxRecDepth 20000 in
theorem dX12_image_280 : decode cX12_image 280 = .ok (.getfield 214, 3) := by decide +kernel
set_option maxRecDepth 20000 in
theorem dX12_image_283 : decode cX12_image 283 = .ok (.iload_n 1, 1) := by decide +kernel
set_option maxRecDepth 20000 in
theorem dX12_image_284 : decode cX12_image 284 = .ok (.aload_n 0, 1) := by decide +kernel
set_option maxRecDepth 20000 in
theorem dX12_image_285 : decode cX12_image 285 = .ok (.getfield 132, 3) := by decide +kernel
set_option maxRecDepth 20000 in
theorem dX12_image_288 : decode cX12_image 288 = .ok (.iload_n 1, 1) := by decide +kernel
set_option maxRecDepth 20000 in
theorem dX12_image_289 : decode cX12_image 289 = .ok (.iaload, 1) := by decide +kernel
set_option maxRecDepth 20000 in
theorem dX12_image_290 : decode cX12_image 290 = .ok (.iastore, 1) := by decide +kernel
set_option maxRecDepth 20000 in
theorem dX12_image_291 : decode cX12_image 291 = .ok (.aload_n 0, 1) := by decide +kernel
set_option maxRecDepth 20000 in
theorem dX12_image_292 : decode cX12_image 292 = .ok (.getfield 217, 3) := by decide +kernel
set_option maxRecDepth 20000 in
theorem dX12_image_295 : decode cX12_image 295 = .ok (.iload_n 1, 1) := by decide +kernel
set_option maxRecDepth 20000 in
theorem dX12_image_296 : decode cX12_image 296 = .ok (.aload_n 0, 1) := by decide +kernel
set_option maxRecDepth 20000 in
theorem dX12_image_297 : decode cX12_image 297 = .ok (.getfield 135, 3) := by decide +kernel
set_option maxRecDepth 20000 in
theorem dX12_image_300 : decode cX12_image 300 = .ok (.iload_n 1, 1) := by decide +kernel
set_option maxRecDepth 20000 in
theorem dX12_image_301 : decode cX12_image 301 = .ok (.iaload, 1) := by decide +kernel
set_option maxRecDepth 20000 in
theorem dX12_image_302 : decode cX12_image 302 = .ok (.iastore, 1) := by decide +kernel
set_option maxRecDepth 20000 in
theorem dX12_image_303 : decode cX12_image 303 = .ok (.iinc 1 1, 3) := by decide +kernel
set_option maxRecDepth 20000 in
theorem dX12_image_306 : decode cX12_image 306 = .ok (.goto (-44), 3) := by decide +kernel
set_option maxRecDepth 20000 in
theorem dX12_image_309 : decode cX12_image 309 = .ok (.iconst 0, 1) := by decide +kernel
set_option maxRecDepth 20000 in
theorem dX12_image_310 : decode cX12_image 310 = .ok (.istore_n 1, 1) := by decide +kernel
set_option maxRecDepth 20000 in
theorem dX12_image_311 : decode cX12_image 311 = .ok (.iload_n 1, 1) := by decide +kernel
set_option maxRecDepth 20000 in
theorem dX12_image_312 : decode cX12_image 312 = .ok (.bipush 10, 2) := by decide +kernel
set_option maxRecDepth 20000 in
theorem dX12_image_314 : decode cX12_image 314 = .ok (.if_icmp .ge 33, 3) := by decide +kernel
set_option maxRecDepth 20000 in
theorem dX12_image_317 : decode cX12_image 317 = .ok (.aload_n 0, 1) := by decide +kernel
set_option maxRecDepth 20000 in
theorem dX12_image_318 : decode cX12_image 318 = .ok (.getfield 220, 3) := by decide +kernel
set_option maxRecDepth 20000 in
theorem dX12_image_321 : decode cX12_image 321 = .ok (.iload_n 1, 1) := by decide +kernel
set_option maxRecDepth 20000 in
theorem dX12_image_322 : decode cX12_image 322 = .ok (.aload_n 0, 1) := by decide +kernel
set_option maxRecDepth 20000 in
theorem dX12_image_323 : decode cX12_image 323 = .ok (.getfield 144, 3) := by decide +kernel
set_option maxRecDepth 20000 in
theorem dX12_image_326 : decode cX12_image 326 = .ok (.iload_n 1, 1) := by decide +kernel
set_option maxRecDepth 20000 in
theorem dX12_image_327 : decode cX12_image 327 = .ok (.iaload, 1) := by decide +kernel
set_option maxRecDepth 20000 in
theorem dX12_image_328 : decode cX12_image 328 = .ok (.iastore, 1) := by decide +kernel
set_option maxRecDepth 20000 in
theorem dX12_image_329 : decode cX12_image 329 = .ok (.aload_n 0, 1) := by decide +kernel
set_option maxRecDepth 20000 in
theorem dX12_image_330 : decode cX12_image 330 = .ok (.getfield 223, 3) := by decide +kernel
set_option maxRecDepth 20000 in
theorem dX12_image_333 : decode cX12_image 333 = .ok (.iload_n 1, 1) := by decide +kernel
set_option maxRecDepth 20000 in
theorem dX12_image_334 : decode cX12_image 334 = .ok (.aload_n 0, 1) := by decide +kernel
set_option maxRecDepth 20000 in
theorem dX12_image_335 : decode cX12_image 335 = .ok (.getfield 147, 3) := by decide +kernel
set_option maxRecDepth 20000 in
theorem dX12_image_338 : decode cX12_image 338 = .ok (.iload_n 1, 1) := by decide +kernel
set_option maxRecDepth 20000 in
theorem dX12_image_339 : decode cX12_image 339 = .ok (.iaload, 1) := by decide +kernel
set_option maxRecDepth 20000 in
theorem dX12_image_340 : decode cX12_image 340 = .ok (.iastore, 1) := by decide +kernel
set_option maxRecDepth 20000 in
theorem dX12_image_341 : decode cX12_image 341 = .ok (.iinc 1 1, 3) := by decide +kernel
set_option maxRecDepth 20000 in
theorem dX12_image_344 : decode cX12_image 344 = .ok (.goto (-33), 3) := by decide +kernel
set_option maxRecDepth 20000 in
theorem dX12_image_347 : decode cX12_image 347 = .ok (.aload_n 0, 1) := by decide +kernel
set_option maxRecDepth 20000 in
theorem dX12_image_348 : decode cX12_image 348 = .ok (.getfield 7, 3) := by decide +kernel
set_option maxRecDepth 20000 in
theorem dX12_image_351 : decode cX12_image 351 = .ok (.ireturn, 1) := by decide +kernel
set_option maxRecDepth 20000 in
theorem kt_X12_image_0 (g : gx_T) : ∀ q ∈ k_X12_image_0, gx_E g gc_md RX12 cX12_image 2 (some .int) "image" q.1 q.2 := List.forall_mem_cons.mpr ⟨(gs_aload_n dX12_image_0 rfl), List.forall_mem_cons.mpr ⟨
  (gs_iconst dX12_image_1 rfl), List.forall_mem_cons.mpr ⟨
  (gs_pf (ref := "GriefCranesModel") dX12_image_2 (gx_mem 1045 (by decide +kernel) (by decide +kernel)) (Or.inl rfl) gf_12_48 (by decide +kernel)), List.forall_mem_cons.mpr ⟨
  (gs_aload_n dX12_image_5 rfl), List.forall_mem_cons.mpr ⟨
  (gs_aload_n dX12_image_6 rfl), List.forall_mem_cons.mpr ⟨
  (gs_gf (ref := "GriefCranesModel") dX12_image_7 (gx_mem 1011 (by decide +kernel) (by decide +kernel)) (Or.inl rfl) gf_12_14), List.forall_mem_cons.mpr ⟨
  (gs_pf (ref := "GriefCranesModel") dX12_image_10 (gx_mem 1046 (by decide +kernel) (by decide +kernel)) (Or.inl rfl) gf_12_49 (by decide +kernel)), List.forall_mem_cons.mpr ⟨
  (gs_aload_n dX12_image_13 rfl), List.forall_mem_cons.mpr ⟨
  (gs_aload_n dX12_image_14 rfl), List.forall_mem_cons.mpr ⟨
  (gs_gf (ref := "GriefCranesModel") dX12_image_15 (gx_mem 997 (by decide +kernel) (by decide +kernel)) (Or.inl rfl) gf_12_0), List.forall_mem_cons.mpr ⟨
  (gs_pf (ref := "GriefCranesModel") dX12_image_18 (gx_mem 1047 (by decide +kernel) (by decide +kernel)) (Or.inl rfl) gf_12_50 (by decide +kernel)), List.forall_mem_cons.mpr ⟨
  (gs_aload_n dX12_image_21 rfl), List.forall_mem_cons.mpr ⟨
  (gs_aload_n dX12_image_22 rfl), List.forall_mem_cons.mpr ⟨
  (gs_gf (ref := "GriefCranesModel") dX12_image_23 (gx_mem 998 (by decide +kernel) (by decide +kernel)) (Or.inl rfl) gf_12_1), List.forall_mem_cons.mpr ⟨
  (gs_pf (ref := "GriefCranesModel") dX12_image_26 (gx_mem 1048 (by decide +kernel) (by decide +kernel)) (Or.inl rfl) gf_12_51 (by decide +kernel)), List.forall_mem_cons.mpr ⟨
  (gs_aload_n dX12_image_29 rfl), List.forall_mem_cons.mpr ⟨
  (gs_aload_n dX12_image_30 rfl), List.forall_mem_cons.mpr ⟨
  (gs_gf (ref := "GriefCranesModel") dX12_image_31 (gx_mem 999 (by decide +kernel) (by decide +kernel)) (Or.inl rfl) gf_12_2), List.forall_mem_cons.mpr ⟨
  (gs_pf (ref := "GriefCranesModel") dX12_image_34 (gx_mem 1049 (by decide +kernel) (by decide +kernel)) (Or.inl rfl) gf_12_52 (by decide +kernel)), List.forall_mem_cons.mpr ⟨
  (gs_aload_n dX12_image_37 rfl), List.forall_mem_cons.mpr ⟨
  (gs_aload_n dX12_image_38 rfl), List.forall_mem_cons.mpr ⟨
  (gs_gf (ref := "GriefCranesModel") dX12_image_39 (gx_mem 1035 (by decide +kernel) (by decide +kernel)) (Or.inl rfl) gf_12_38), List.forall_mem_cons.mpr ⟨
  (gs_pf (ref := "GriefCranesModel") dX12_image_42 (gx_mem 1050 (by decide +kernel) (by decide +kernel)) (Or.inl rfl) gf_12_53 (by decide +kernel)), List.forall_mem_cons.mpr ⟨
  (gs_aload_n dX12_image_45 rfl), List.forall_mem_cons.mpr ⟨
  (gs_aload_n dX12_image_46 rfl), List.forall_mem_cons.mpr ⟨
  (gs_gf (ref := "GriefCranesModel") dX12_image_47 (gx_mem 1039 (by decide +kernel) (by decide +kernel)) (Or.inl rfl) gf_12_42), List.forall_mem_cons.mpr ⟨
  (gs_pf (ref := "GriefCranesModel") dX12_image_50 (gx_mem 1051 (by decide +kernel) (by decide +kernel)) (Or.inl rfl) gf_12_54 (by decide +kernel)), List.forall_mem_cons.mpr ⟨
  (gs_aload_n dX12_image_53 rfl), List.forall_mem_cons.mpr ⟨
  (gs_aload_n dX12_image_54 rfl), List.forall_mem_cons.mpr ⟨
  (gs_gf (ref := "GriefCranesModel") dX12_image_55 (gx_mem 1040 (by decide +kernel) (by decide +kernel)) (Or.inl rfl) gf_12_43), List.forall_mem_cons.mpr ⟨
  (gs_pf (ref := "GriefCranesModel") dX12_image_58 (gx_mem 1052 (by decide +kernel) (by decide +kernel)) (Or.inl rfl) gf_12_55 (by decide +kernel)), List.forall_mem_cons.mpr ⟨
  (gs_iconst dX12_image_61 rfl), fun _ h => absurd h List.not_mem_nil⟩⟩⟩⟩⟩⟩⟩⟩⟩⟩⟩⟩⟩⟩⟩⟩⟩⟩⟩⟩⟩⟩⟩⟩⟩⟩⟩⟩⟩⟩⟩⟩
set_option maxRecDepth 20000 in
theorem kt_X12_image_1 (g : gx_T) : ∀ q ∈ k_X12_image_1, gx_E g gc_md RX12 cX12_image 2 (some .int) "image" q.1 q.2 := List.forall_mem_cons.mpr ⟨(gs_istore_n dX12_image_62 rfl), List.forall_mem_cons.mpr ⟨
  (gs_iload_n dX12_image_63 rfl), List.forall_mem_cons.mpr ⟨
  (gs_iconst dX12_image_64 rfl), List.forall_mem_cons.mpr ⟨
  (gs_icmp_ge dX12_image_65 rfl), List.forall_mem_cons.mpr ⟨
  (gs_aload_n dX12_image_68 rfl), List.forall_mem_cons.mpr ⟨
  (gs_gf (ref := "GriefCranesModel") dX12_image_69 (gx_mem 1053 (by decide +kernel) (by decide +kernel)) (Or.inl rfl) gf_12_56), List.forall_mem_cons.mpr ⟨
  (gs_iload_n dX12_image_72 rfl), List.forall_mem_cons.mpr ⟨
  (gs_aload_n dX12_image_73 rfl), List.forall_mem_cons.mpr ⟨
  (gs_gf (ref := "GriefCranesModel") dX12_image_74 (gx_mem 1000 (by decide +kernel) (by decide +kernel)) (Or.inl rfl) gf_12_3), List.forall_mem_cons.mpr ⟨
  (gs_iload_n dX12_image_77 rfl), List.forall_mem_cons.mpr ⟨
  (gs_iaload dX12_image_78), List.forall_mem_cons.mpr ⟨
  (gs_iastore dX12_image_79), List.forall_mem_cons.mpr ⟨
  (gs_iinc dX12_image_80), List.forall_mem_cons.mpr ⟨
  (gs_goto dX12_image_83 rfl), List.forall_mem_cons.mpr ⟨
  (gs_iconst dX12_image_86 rfl), List.forall_mem_cons.mpr ⟨
  (gs_istore_n dX12_image_87 rfl), List.forall_mem_cons.mpr ⟨
  (gs_iload_n dX12_image_88 rfl), List.forall_mem_cons.mpr ⟨
  (gs_bipush dX12_image_89 rfl), List.forall_mem_cons.mpr ⟨
  (gs_icmp_ge dX12_image_91 rfl), List.forall_mem_cons.mpr ⟨
  (gs_aload_n dX12_image_94 rfl), List.forall_mem_cons.mpr ⟨
  (gs_gf (ref := "GriefCranesModel") dX12_image_95 (gx_mem 1054 (by decide +kernel) (by decide +kernel)) (Or.inl rfl) gf_12_57), List.forall_mem_cons.mpr ⟨
  (gs_iload_n dX12_image_98 rfl), List.forall_mem_cons.mpr ⟨
  (gs_aload_n dX12_image_99 rfl), List.forall_mem_cons.mpr ⟨
  (gs_gf (ref := "GriefCranesModel") dX12_image_100 (gx_mem 1001 (by decide +kernel) (by decide +kernel)) (Or.inl rfl) gf_12_4), List.forall_mem_cons.mpr ⟨
  (gs_iload_n dX12_image_103 rfl), List.forall_mem_cons.mpr ⟨
  (gs_iaload dX12_image_104), List.forall_mem_cons.mpr ⟨
  (gs_iastore dX12_image_105), List.forall_mem_cons.mpr ⟨
  (gs_aload_n dX12_image_106 rfl), List.forall_mem_cons.mpr ⟨
  (gs_gf (ref := "GriefCranesModel") dX12_image_107 (gx_mem 1055 (by decide +kernel) (by decide +kernel)) (Or.inl rfl) gf_12_58), List.forall_mem_cons.mpr ⟨
  (gs_iload_n dX12_image_110 rfl), List.forall_mem_cons.mpr ⟨
  (gs_aload_n dX12_image_111 rfl), List.forall_mem_cons.mpr ⟨
  (gs_gf (ref := "GriefCranesModel") dX12_image_112 (gx_mem 1002 (by decide +kernel) (by decide +kernel)) (Or.inl rfl) gf_12_5), fun _ h => absurd h List.not_mem_nil⟩⟩⟩⟩⟩⟩⟩⟩⟩⟩⟩⟩⟩⟩⟩⟩⟩⟩⟩⟩⟩⟩⟩⟩⟩⟩⟩⟩⟩⟩⟩⟩
set_option maxRecDepth 20000 in
theorem kt_X12_image_2 (g : gx_T) : ∀ q ∈ k_X12_image_2, gx_E g gc_md RX12 cX12_image 2 (some .int) "image" q.1 q.2 := List.forall_mem_cons.mpr ⟨(gs_iload_n dX12_image_115 rfl), List.forall_mem_cons.mpr ⟨
  (gs_iaload dX12_image_116), List.forall_mem_cons.mpr ⟨
  (gs_iastore dX12_image_117), List.forall_mem_cons.mpr ⟨
  (gs_aload_n dX12_image_118 rfl), List.forall_mem_cons.mpr ⟨
  (gs_gf (ref := "GriefCranesModel") dX12_image_119 (gx_mem 1056 (by decide +kernel) (by decide +kernel)) (Or.inl rfl) gf_12_59), List.forall_mem_cons.mpr ⟨
  (gs_iload_n dX12_image_122 rfl), List.forall_mem_cons.mpr ⟨
  (gs_aload_n dX12_image_123 rfl), List.forall_mem_cons.mpr ⟨
  (gs_gf (ref := "GriefCranesModel") dX12_image_124 (gx_mem 1003 (by decide +kernel) (by decide +kernel)) (Or.inl rfl) gf_12_6), List.forall_mem_cons.mpr ⟨
  (gs_iload_n dX12_image_127 rfl), List.forall_mem_cons.mpr ⟨
  (gs_iaload dX12_image_128), List.forall_mem_cons.mpr ⟨
  (gs_iastore dX12_image_129), List.forall_mem_cons.mpr ⟨
  (gs_iinc dX12_image_130), List.forall_mem_cons.mpr ⟨
  (gs_goto dX12_image_133 rfl), List.forall_mem_cons.mpr ⟨
  (gs_iconst dX12_image_136 rfl), List.forall_mem_cons.mpr ⟨
  (gs_istore_n dX12_image_137 rfl), List.forall_mem_cons.mpr ⟨
  (gs_iload_n dX12_image_138 rfl), List.forall_mem_cons.mpr ⟨
  (gs_bipush dX12_image_139 rfl), List.forall_mem_cons.mpr ⟨
  (gs_icmp_ge dX12_image_141 rfl), List.forall_mem_cons.mpr ⟨
  (gs_aload_n dX12_image_144 rfl), List.forall_mem_cons.mpr ⟨
  (gs_gf (ref := "GriefCranesModel") dX12_image_145 (gx_mem 1057 (by decide +kernel) (by decide +kernel)) (Or.inl rfl) gf_12_60), List.forall_mem_cons.mpr ⟨
  (gs_iload_n dX12_image_148 rfl), List.forall_mem_cons.mpr ⟨
  (gs_aload_n dX12_image_149 rfl), List.forall_mem_cons.mpr ⟨
  (gs_gf (ref := "GriefCranesModel") dX12_image_150 (gx_mem 1004 (by decide +kernel) (by decide +kernel)) (Or.inl rfl) gf_12_7), List.forall_mem_cons.mpr ⟨
  (gs_iload_n dX12_image_153 rfl), List.forall_mem_cons.mpr ⟨
  (gs_iaload dX12_image_154), List.forall_mem_cons.mpr ⟨
  (gs_iastore dX12_image_155), List.forall_mem_cons.mpr ⟨
  (gs_iinc dX12_image_156), List.forall_mem_cons.mpr ⟨
  (gs_goto dX12_image_159 rfl), List.forall_mem_cons.mpr ⟨
  (gs_iconst dX12_image_162 rfl), List.forall_mem_cons.mpr ⟨
  (gs_istore_n dX12_image_163 rfl), List.forall_mem_cons.mpr ⟨
  (gs_iload_n dX12_image_164 rfl), List.forall_mem_cons.mpr ⟨
  (gs_bipush dX12_image_165 rfl), fun _ h => absurd h List.not_mem_nil⟩⟩⟩⟩⟩⟩⟩⟩⟩⟩⟩⟩⟩⟩⟩⟩⟩⟩⟩⟩⟩⟩⟩⟩⟩⟩⟩⟩⟩⟩⟩⟩
set_option maxRecDepth 20000 in
theorem kt_X12_image_3 (g : gx_T) : ∀ q ∈ k_X12_image_3, gx_E g gc_md RX12 cX12_image 2 (some .int) "image" q.1 q.2 := List.forall_mem_cons.mpr ⟨(gs_icmp_ge dX12_image_167 rfl), List.forall_mem_cons.mpr ⟨
  (gs_aload_n dX12_image_170 rfl), List.forall_mem_cons.mpr ⟨
  (gs_gf (ref := "GriefCranesModel") dX12_image_171 (gx_mem 1058 (by decide +kernel) (by decide +kernel)) (Or.inl rfl) gf_12_61), List.forall_mem_cons.mpr ⟨
  (gs_iload_n dX12_image_174 rfl), List.forall_mem_cons.mpr ⟨
  (gs_aload_n dX12_image_175 rfl), List.forall_mem_cons.mpr ⟨
  (gs_gf (ref := "GriefCranesModel") dX12_image_176 (gx_mem 1005 (by decide +kernel) (by decide +kernel)) (Or.inl rfl) gf_12_8), List.forall_mem_cons.mpr ⟨
  (gs_iload_n dX12_image_179 rfl), List.forall_mem_cons.mpr ⟨
  (gs_iaload dX12_image_180), List.forall_mem_cons.mpr ⟨
  (gs_iastore dX12_image_181), List.forall_mem_cons.mpr ⟨
  (gs_aload_n dX12_image_182 rfl), List.forall_mem_cons.mpr ⟨
  (gs_gf (ref := "GriefCranesModel") dX12_image_183 (gx_mem 1059 (by decide +kernel) (by decide +kernel)) (Or.inl rfl) gf_12_62), List.forall_mem_cons.mpr ⟨
  (gs_iload_n dX12_image_186 rfl), List.forall_mem_cons.mpr ⟨
  (gs_aload_n dX12_image_187 rfl), List.forall_mem_cons.mpr ⟨
  (gs_gf (ref := "GriefCranesModel") dX12_image_188 (gx_mem 1006 (by decide +kernel) (by decide +kernel)) (Or.inl rfl) gf_12_9), List.forall_mem_cons.mpr ⟨
  (gs_iload_n dX12_image_191 rfl), List.forall_mem_cons.mpr ⟨
  (gs_iaload dX12_image_192), List.forall_mem_cons.mpr ⟨
  (gs_iastore dX12_image_193), List.forall_mem_cons.mpr ⟨
  (gs_aload_n dX12_image_194 rfl), List.forall_mem_cons.mpr ⟨
  (gs_gf (ref := "GriefCranesModel") dX12_image_195 (gx_mem 1060 (by decide +kernel) (by decide +kernel)) (Or.inl rfl) gf_12_63), List.forall_mem_cons.mpr ⟨
  (gs_iload_n dX12_image_198 rfl), List.forall_mem_cons.mpr ⟨
  (gs_aload_n dX12_image_199 rfl), List.forall_mem_cons.mpr ⟨
  (gs_gf (ref := "GriefCranesModel") dX12_image_200 (gx_mem 1007 (by decide +kernel) (by decide +kernel)) (Or.inl rfl) gf_12_10), List.forall_mem_cons.mpr ⟨
  (gs_iload_n dX12_image_203 rfl), List.forall_mem_cons.mpr ⟨
  (gs_iaload dX12_image_204), List.forall_mem_cons.mpr ⟨
  (gs_iastore dX12_image_205), List.forall_mem_cons.mpr ⟨
  (gs_aload_n dX12_image_206 rfl), List.forall_mem_cons.mpr ⟨
  (gs_gf (ref := "GriefCranesModel") dX12_image_207 (gx_mem 1061 (by decide +kernel) (by decide +kernel)) (Or.inl rfl) gf_12_64), List.forall_mem_cons.mpr ⟨
  (gs_iload_n dX12_image_210 rfl), List.forall_mem_cons.mpr ⟨
  (gs_aload_n dX12_image_211 rfl), List.forall_mem_cons.mpr ⟨
  (gs_gf (ref := "GriefCranesModel") dX12_image_212 (gx_mem 1008 (by decide +kernel) (by decide +kernel)) (Or.inl rfl) gf_12_11), List.forall_mem_cons.mpr ⟨
  (gs_iload_n dX12_image_215 rfl), List.forall_mem_cons.mpr ⟨
  (gs_iaload dX12_image_216), fun _ h => absurd h List.not_mem_nil⟩⟩⟩⟩⟩⟩⟩⟩⟩⟩⟩⟩⟩⟩⟩⟩⟩⟩⟩⟩⟩⟩⟩⟩⟩⟩⟩⟩⟩⟩⟩⟩
set_option maxRecDepth 20000 in
theorem kt_X12_image_4 (g : gx_T) : ∀ q ∈ k_X12_image_4, gx_E g gc_md RX12 cX12_image 2 (some .int) "image" q.1 q.2 := List.forall_mem_cons.mpr ⟨(gs_iastore dX12_image_217), List.forall_mem_cons.mpr ⟨
  (gs_aload_n dX12_image_218 rfl), List.forall_mem_cons.mpr ⟨
  (gs_gf (ref := "GriefCranesModel") dX12_image_219 (gx_mem 1062 (by decide +kernel) (by decide +kernel)) (Or.inl rfl) gf_12_65), List.forall_mem_cons.mpr ⟨
  (gs_iload_n dX12_image_222 rfl), List.forall_mem_cons.mpr ⟨
  (gs_aload_n dX12_image_223 rfl), List.forall_mem_cons.mpr ⟨
  (gs_gf (ref := "GriefCranesModel") dX12_image_224 (gx_mem 1009 (by decide +kernel) (by decide +kernel)) (Or.inl rfl) gf_12_12), List.forall_mem_cons.mpr ⟨
  (gs_iload_n dX12_image_227 rfl), List.forall_mem_cons.mpr ⟨
  (gs_iaload dX12_image_228), List.forall_mem_cons.mpr ⟨
  (gs_iastore dX12_image_229), List.forall_mem_cons.mpr ⟨
  (gs_aload_n dX12_image_230 rfl), List.forall_mem_cons.mpr ⟨
  (gs_gf (ref := "GriefCranesModel") dX12_image_231 (gx_mem 1068 (by decide +kernel) (by decide +kernel)) (Or.inl rfl) gf_12_71), List.forall_mem_cons.mpr ⟨
  (gs_iload_n dX12_image_234 rfl), List.forall_mem_cons.mpr ⟨
  (gs_aload_n dX12_image_235 rfl), List.forall_mem_cons.mpr ⟨
  (gs_gf (ref := "GriefCranesModel") dX12_image_236 (gx_mem 1043 (by decide +kernel) (by decide +kernel)) (Or.inl rfl) gf_12_46), List.forall_mem_cons.mpr ⟨
  (gs_iload_n dX12_image_239 rfl), List.forall_mem_cons.mpr ⟨
  (gs_iaload dX12_image_240), List.forall_mem_cons.mpr ⟨
  (gs_iastore dX12_image_241), List.forall_mem_cons.mpr ⟨
  (gs_aload_n dX12_image_242 rfl), List.forall_mem_cons.mpr ⟨
  (gs_gf (ref := "GriefCranesModel") dX12_image_243 (gx_mem 1069 (by decide +kernel) (by decide +kernel)) (Or.inl rfl) gf_12_72), List.forall_mem_cons.mpr ⟨
  (gs_iload_n dX12_image_246 rfl), List.forall_mem_cons.mpr ⟨
  (gs_aload_n dX12_image_247 rfl), List.forall_mem_cons.mpr ⟨
  (gs_gf (ref := "GriefCranesModel") dX12_image_248 (gx_mem 1044 (by decide +kernel) (by decide +kernel)) (Or.inl rfl) gf_12_47), List.forall_mem_cons.mpr ⟨
  (gs_iload_n dX12_image_251 rfl), List.forall_mem_cons.mpr ⟨
  (gs_iaload dX12_image_252), List.forall_mem_cons.mpr ⟨
  (gs_iastore dX12_image_253), List.forall_mem_cons.mpr ⟨
  (gs_iinc dX12_image_254), List.forall_mem_cons.mpr ⟨
  (gs_goto dX12_image_257 rfl), List.forall_mem_cons.mpr ⟨
  (gs_iconst dX12_image_260 rfl), List.forall_mem_cons.mpr ⟨
  (gs_istore_n dX12_image_261 rfl), List.forall_mem_cons.mpr ⟨
  (gs_iload_n dX12_image_262 rfl), List.forall_mem_cons.mpr ⟨
  (gs_iconst dX12_image_263 rfl), List.forall_mem_cons.mpr ⟨
  (gs_icmp_ge dX12_image_264 rfl), fun _ h => absurd h List.not_mem_nil⟩⟩⟩⟩⟩⟩⟩⟩⟩⟩⟩⟩⟩⟩⟩⟩⟩⟩⟩⟩⟩⟩⟩⟩⟩⟩⟩⟩⟩⟩⟩⟩
set_option maxRecDepth 20000 in
theorem kt_X12_image_5 (g : gx_T) : ∀ q ∈ k_X12_image_5, gx_E g gc_md RX12 cX12_image 2 (some .int) "image" q.1 q.2 := List.forall_mem_cons.mpr ⟨(gs_aload_n dX12_image_267 rfl), List.forall_mem_cons.mpr ⟨
  (gs_gf (ref := "GriefCranesModel") dX12_image_268 (gx_mem 1063 (by decide +kernel) (by decide +kernel)) (Or.inl rfl) gf_12_66), List.forall_mem_cons.mpr ⟨
  (gs_iload_n dX12_image_271 rfl), List.forall_mem_cons.mpr ⟨
  (gs_aload_n dX12_image_272 rfl), List.forall_mem_cons.mpr ⟨
  (gs_gf (ref := "GriefCranesModel") dX12_image_273 (gx_mem 1036 (by decide +kernel) (by decide +kernel)) (Or.inl rfl) gf_12_39), List.forall_mem_cons.mpr ⟨
  (gs_iload_n dX12_image_276 rfl), List.forall_mem_cons.mpr ⟨
  (gs_iaload dX12_image_277), List.forall_mem_cons.mpr ⟨
  (gs_iastore dX12_image_278), List.forall_mem_cons.mpr ⟨
  (gs_aload_n dX12_image_279 rfl), List.forall_mem_cons.mpr ⟨
  (gs_gf (ref := "GriefCranesModel") dX12_image_280 (gx_mem 1064 (by decide +kernel) (by decide +kernel)) (Or.inl rfl) gf_12_67), List.forall_mem_cons.mpr ⟨
  (gs_iload_n dX12_image_283 rfl), List.forall_mem_cons.mpr ⟨
  (gs_aload_n dX12_image_284 rfl), List.forall_mem_cons.mpr ⟨
  (gs_gf (ref := "GriefCranesModel") dX12_image_285 (gx_mem 1037 (by decide +kernel) (by decide +kernel)) (Or.inl rfl) gf_12_40), List.forall_mem_cons.mpr ⟨
  (gs_iload_n dX12_image_288 rfl), List.forall_mem_cons.mpr ⟨
  (gs_iaload dX12_image_289), List.forall_mem_cons.mpr ⟨
  (gs_iastore dX12_image_290), List.forall_mem_cons.mpr ⟨
  (gs_aload_n dX12_image_291 rfl), List.forall_mem_cons.mpr ⟨
  (gs_gf (ref := "GriefCranesModel") dX12_image_292 (gx_mem 1065 (by decide +kernel) (by decide +kernel)) (Or.inl rfl) gf_12_68), List.forall_mem_cons.mpr ⟨
  (gs_iload_n dX12_image_295 rfl), List.forall_mem_cons.mpr ⟨
  (gs_aload_n dX12_image_296 rfl), List.forall_mem_cons.mpr ⟨
  (gs_gf (ref := "GriefCranesModel") dX12_image_297 (gx_mem 1038 (by decide +kernel) (by decide +kernel)) (Or.inl rfl) gf_12_41), List.forall_mem_cons.mpr ⟨
  (gs_iload_n dX12_image_300 rfl), List.forall_mem_cons.mpr ⟨
  (gs_iaload dX12_image_301), List.forall_mem_cons.mpr ⟨
  (gs_iastore dX12_image_302), List.forall_mem_cons.mpr ⟨
  (gs_iinc dX12_image_303), List.forall_mem_cons.mpr ⟨
  (gs_goto dX12_image_306 rfl), List.forall_mem_cons.mpr ⟨
  (gs_iconst dX12_image_309 rfl), List.forall_mem_cons.mpr ⟨
  (gs_istore_n dX12_image_310 rfl), List.forall_mem_cons.mpr ⟨
  (gs_iload_n dX12_image_311 rfl), List.forall_mem_cons.mpr ⟨
  (gs_bipush dX12_image_312 rfl), List.forall_mem_cons.mpr ⟨
  (gs_icmp_ge dX12_image_314 rfl), List.forall_mem_cons.mpr ⟨
  (gs_aload_n dX12_image_317 rfl), fun _ h => absurd h List.not_mem_nil⟩⟩⟩⟩⟩⟩⟩⟩⟩⟩⟩⟩⟩⟩⟩⟩⟩⟩⟩⟩⟩⟩⟩⟩⟩⟩⟩⟩⟩⟩⟩⟩
set_option maxRecDepth 20000 in
theorem kt_X12_image_6 (g : gx_T) : ∀ q ∈ k_X12_image_6, gx_E g gc_md RX12 cX12_image 2 (some .int) "image" q.1 q.2 := List.forall_mem_cons.mpr ⟨(gs_gf (ref := "GriefCranesModel") dX12_image_318 (gx_mem 1066 (by decide +kernel) (by decide +kernel)) (Or.inl rfl) gf_12_69), List.forall_mem_cons.mpr ⟨
  (gs_iload_n dX12_image_321 rfl), List.forall_mem_cons.mpr ⟨
  (gs_aload_n dX12_image_322 rfl), List.forall_mem_cons.mpr ⟨
  (gs_gf (ref := "GriefCranesModel") dX12_image_323 (gx_mem 1041 (by decide +kernel) (by decide +kernel)) (Or.inl rfl) gf_12_44), List.forall_mem_cons.mpr ⟨
  (gs_iload_n dX12_image_326 rfl), List.forall_mem_cons.mpr ⟨
  (gs_iaload dX12_image_327), List.forall_mem_cons.mpr ⟨
  (gs_iastore dX12_image_328), List.forall_mem_cons.mpr ⟨
  (gs_aload_n dX12_image_329 rfl), List.forall_mem_cons.mpr ⟨
  (gs_gf (ref := "GriefCranesModel") dX12_image_330 (gx_mem 1067 (by decide +kernel) (by decide +kernel)) (Or.inl rfl) gf_12_70), List.forall_mem_cons.mpr ⟨
  (gs_iload_n dX12_image_333 rfl), List.forall_mem_cons.mpr ⟨
  (gs_aload_n dX12_image_334 rfl), List.forall_mem_cons.mpr ⟨
  (gs_gf (ref := "GriefCranesModel") dX12_image_335 (gx_mem 1042 (by decide +kernel) (by decide +kernel)) (Or.inl rfl) gf_12_45), List.forall_mem_cons.mpr ⟨
  (gs_iload_n dX12_image_338 rfl), List.forall_mem_cons.mpr ⟨
  (gs_iaload dX12_image_339), List.forall_mem_cons.mpr ⟨
  (gs_iastore dX12_image_340), List.forall_mem_cons.mpr ⟨
  (gs_iinc dX12_image_341), List.forall_mem_cons.mpr ⟨
  (gs_goto dX12_image_344 rfl), List.forall_mem_cons.mpr ⟨
  (gs_aload_n dX12_image_347 rfl), List.forall_mem_cons.mpr ⟨
  (gs_gf (ref := "GriefCranesModel") dX12_image_348 (gx_mem 997 (by decide +kernel) (by decide +kernel)) (Or.inl rfl) gf_12_0), List.forall_mem_cons.mpr ⟨
  (gs_ri dX12_image_351), fun _ h => absurd h List.not_mem_nil⟩⟩⟩⟩⟩⟩⟩⟩⟩⟩⟩⟩⟩⟩⟩⟩⟩⟩⟩⟩
theorem kt_X12_image (g : gx_T) : ∀ q ∈ k_X12_image, gx_E g gc_md RX12 cX12_image 2 (some .int) "image" q.1 q.2 := List.forall_mem_append.mpr ⟨kt_X12_image_0 g, List.forall_mem_append.mpr ⟨kt_X12_image_1 g, List.forall_mem_append.mpr ⟨kt_X12_image_2 g, List.forall_mem_append.mpr ⟨kt_X12_image_3 g, List.forall_mem_append.mpr ⟨kt_X12_image_4 g, List.forall_mem_append.mpr ⟨kt_X12_image_5 g, kt_X12_image_6 g⟩⟩⟩⟩⟩⟩
