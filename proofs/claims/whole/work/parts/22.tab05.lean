/-! decoded, and each instruction a row -/
set_option maxRecDepth 20000 in
theorem dX12_settle_0 : decode cX12_settle 0 = .ok (.aload_n 0, 1) := by decide +kernel
set_option maxRecDepth 20000 in
theorem dX12_settle_1 : decode cX12_settle 1 = .ok (.getfield 92, 3) := by decide +kernel
set_option maxRecDepth 20000 in
theorem dX12_settle_4 : decode cX12_settle 4 = .ok (.ifCond .le 68, 3) := by decide +kernel
set_option maxRecDepth 20000 in
theorem dX12_settle_7 : decode cX12_settle 7 = .ok (.aload_n 0, 1) := by decide +kernel
set_option maxRecDepth 20000 in
theorem dX12_settle_8 : decode cX12_settle 8 = .ok (.getfield 86, 3) := by decide +kernel
set_option maxRecDepth 20000 in
theorem dX12_settle_11 : decode cX12_settle 11 = .ok (.aload_n 0, 1) := by decide +kernel
set_option maxRecDepth 20000 in
theorem dX12_settle_12 : decode cX12_settle 12 = .ok (.getfield 92, 3) := by decide +kernel
set_option maxRecDepth 20000 in
theorem dX12_settle_15 : decode cX12_settle 15 = .ok (.iconst 1, 1) := by decide +kernel
set_option maxRecDepth 20000 in
theorem dX12_settle_16 : decode cX12_settle 16 = .ok (.isub, 1) := by decide +kernel
set_option maxRecDepth 20000 in
theorem dX12_settle_17 : decode cX12_settle 17 = .ok (.iaload, 1) := by decide +kernel
set_option maxRecDepth 20000 in
theorem dX12_settle_18 : decode cX12_settle 18 = .ok (.bipush 38, 2) := by decide +kernel
set_option maxRecDepth 20000 in
theorem dX12_settle_20 : decode cX12_settle 20 = .ok (.if_icmp .eq 25, 3) := by decide +kernel
set_option maxRecDepth 20000 in
theorem dX12_settle_23 : decode cX12_settle 23 = .ok (.aload_n 0, 1) := by decide +kernel
set_option maxRecDepth 20000 in
theorem dX12_settle_24 : decode cX12_settle 24 = .ok (.getfield 86, 3) := by decide +kernel
set_option maxRecDepth 20000 in
theorem dX12_settle_27 : decode cX12_settle 27 = .ok (.aload_n 0, 1) := by decide +kernel
set_option maxRecDepth 20000 in
theorem dX12_settle_28 : decode cX12_settle 28 = .ok (.getfield 92, 3) := by decide +kernel
set_option maxRecDepth 20000 in
theorem dX12_settle_31 : decode cX12_settle 31 = .ok (.iconst 1, 1) := by decide +kernel
set_option maxRecDepth 20000 in
theorem dX12_settle_32 : decode cX12_settle 32 = .ok (.isub, 1) := by decide +kernel
set_option maxRecDepth 20000 in
theorem dX12_settle_33 : decode cX12_settle 33 = .ok (.iaload, 1) := by decide +kernel
set_option maxRecDepth 20000 in
theorem dX12_settle_34 : decode cX12_settle 34 = .ok (.bipush 124, 2) := by decide +kernel
set_option maxRecDepth 20000 in
theorem dX12_settle_36 : decode cX12_settle 36 = .ok (.if_icmp .ne 36, 3) := by decide +kernel
set_option maxRecDepth 20000 in
theorem dX12_settle_39 : decode cX12_settle 39 = .ok (.iload_n 1, 1) := by decide +kernel
set_option maxRecDepth 20000 in
theorem dX12_settle_40 : decode cX12_settle 40 = .ok (.bipush 38, 2) := by decide +kernel
set_option maxRecDepth 20000 in
theorem dX12_settle_42 : decode cX12_settle 42 = .ok (.if_icmp .eq 30, 3) := by decide +kernel
set_option maxRecDepth 20000 in
theorem dX12_settle_45 : decode cX12_settle 45 = .ok (.aload_n 0, 1) := by decide +kernel
set_option maxRecDepth 20000 in
theorem dX12_settle_46 : decode cX12_settle 46 = .ok (.dup, 1) := by decide +kernel
set_option maxRecDepth 20000 in
theorem dX12_settle_47 : decode cX12_settle 47 = .ok (.getfield 92, 3) := by decide +kernel
set_option maxRecDepth 20000 in
theorem dX12_settle_50 : decode cX12_settle 50 = .ok (.iconst 1, 1) := by decide +kernel
set_option maxRecDepth 20000 in
theorem dX12_settle_51 : decode cX12_settle 51 = .ok (.isub, 1) := by decide +kernel
set_option maxRecDepth 20000 in
theorem dX12_settle_52 : decode cX12_settle 52 = .ok (.putfield 92, 3) := by decide +kernel
set_option maxRecDepth 20000 in
theorem dX12_settle_55 : decode cX12_settle 55 = .ok (.aload_n 0, 1) := by decide +kernel
set_option maxRecDepth 20000 in
theorem dX12_settle_56 : decode cX12_settle 56 = .ok (.aload_n 0, 1) := by decide +kernel
set_option maxRecDepth 20000 in
theorem dX12_settle_57 : decode cX12_settle 57 = .ok (.getfield 86, 3) := by decide +kernel
set_option maxRecDepth 20000 in
theorem dX12_settle_60 : decode cX12_settle 60 = .ok (.aload_n 0, 1) := by decide +kernel
set_option maxRecDepth 20000 in
theorem dX12_settle_61 : decode cX12_settle 61 = .ok (.getfield 92, 3) := by decide +kernel
set_option maxRecDepth 20000 in
theorem dX12_settle_64 : decode cX12_settle 64 = .ok (.iaload, 1) := by decide +kernel
set_option maxRecDepth 20000 in
theorem dX12_settle_65 : decode cX12_settle 65 = .ok (.ineg, 1) := by decide +kernel
set_option maxRecDepth 20000 in
theorem dX12_settle_66 : decode cX12_settle 66 = .ok (.invokevirtual 280, 3) := by decide +kernel
set_option maxRecDepth 20000 in
theorem dX12_settle_69 : decode cX12_settle 69 = .ok (.goto (-69), 3) := by decide +kernel
set_option maxRecDepth 20000 in
theorem dX12_settle_72 : decode cX12_settle 72 = .ok (.return_, 1) := by decide +kernel
set_option maxRecDepth 20000 in
theorem kt_X12_settle_0 (g : gx_T) : ∀ q ∈ k_X12_settle_0, gx_E g gc_md RX12 cX12_settle 2 (none) "settle" q.1 q.2 := List.forall_mem_cons.mpr ⟨(gs_aload_n dX12_settle_0 rfl), List.forall_mem_cons.mpr ⟨
  (gs_gf (ref := "GriefCranesModel") dX12_settle_1 (gx_mem 1024 (by decide +kernel) (by decide +kernel)) (Or.inl rfl) gf_12_27), List.forall_mem_cons.mpr ⟨
  (gs_if_le dX12_settle_4 rfl), List.forall_mem_cons.mpr ⟨
  (gs_aload_n dX12_settle_7 rfl), List.forall_mem_cons.mpr ⟨
  (gs_gf (ref := "GriefCranesModel") dX12_settle_8 (gx_mem 1022 (by decide +kernel) (by decide +kernel)) (Or.inl rfl) gf_12_25), List.forall_mem_cons.mpr ⟨
  (gs_aload_n dX12_settle_11 rfl), List.forall_mem_cons.mpr ⟨
  (gs_gf (ref := "GriefCranesModel") dX12_settle_12 (gx_mem 1024 (by decide +kernel) (by decide +kernel)) (Or.inl rfl) gf_12_27), List.forall_mem_cons.mpr ⟨
  (gs_iconst dX12_settle_15 rfl), List.forall_mem_cons.mpr ⟨
  (gs_isub dX12_settle_16), List.forall_mem_cons.mpr ⟨
  (gs_iaload dX12_settle_17), List.forall_mem_cons.mpr ⟨
  (gs_bipush dX12_settle_18 rfl), List.forall_mem_cons.mpr ⟨
  (gs_icmp_eq dX12_settle_20 rfl), List.forall_mem_cons.mpr ⟨
  (gs_aload_n dX12_settle_23 rfl), List.forall_mem_cons.mpr ⟨
  (gs_gf (ref := "GriefCranesModel") dX12_settle_24 (gx_mem 1022 (by decide +kernel) (by decide +kernel)) (Or.inl rfl) gf_12_25), List.forall_mem_cons.mpr ⟨
  (gs_aload_n dX12_settle_27 rfl), List.forall_mem_cons.mpr ⟨
  (gs_gf (ref := "GriefCranesModel") dX12_settle_28 (gx_mem 1024 (by decide +kernel) (by decide +kernel)) (Or.inl rfl) gf_12_27), List.forall_mem_cons.mpr ⟨
  (gs_iconst dX12_settle_31 rfl), List.forall_mem_cons.mpr ⟨
  (gs_isub dX12_settle_32), List.forall_mem_cons.mpr ⟨
  (gs_iaload dX12_settle_33), List.forall_mem_cons.mpr ⟨
  (gs_bipush dX12_settle_34 rfl), List.forall_mem_cons.mpr ⟨
  (gs_icmp_ne dX12_settle_36 rfl), List.forall_mem_cons.mpr ⟨
  (gs_iload_n dX12_settle_39 rfl), List.forall_mem_cons.mpr ⟨
  (gs_bipush dX12_settle_40 rfl), List.forall_mem_cons.mpr ⟨
  (gs_icmp_eq dX12_settle_42 rfl), List.forall_mem_cons.mpr ⟨
  (gs_aload_n dX12_settle_45 rfl), List.forall_mem_cons.mpr ⟨
  (gs_dup dX12_settle_46), List.forall_mem_cons.mpr ⟨
  (gs_gf (ref := "GriefCranesModel") dX12_settle_47 (gx_mem 1024 (by decide +kernel) (by decide +kernel)) (Or.inl rfl) gf_12_27), List.forall_mem_cons.mpr ⟨
  (gs_iconst dX12_settle_50 rfl), List.forall_mem_cons.mpr ⟨
  (gs_isub dX12_settle_51), List.forall_mem_cons.mpr ⟨
  (gs_pf (ref := "GriefCranesModel") dX12_settle_52 (gx_mem 1024 (by decide +kernel) (by decide +kernel)) (Or.inl rfl) gf_12_27 (by decide +kernel)), List.forall_mem_cons.mpr ⟨
  (gs_aload_n dX12_settle_55 rfl), List.forall_mem_cons.mpr ⟨
  (gs_aload_n dX12_settle_56 rfl), fun _ h => absurd h List.not_mem_nil⟩⟩⟩⟩⟩⟩⟩⟩⟩⟩⟩⟩⟩⟩⟩⟩⟩⟩⟩⟩⟩⟩⟩⟩⟩⟩⟩⟩⟩⟩⟩⟩
set_option maxRecDepth 20000 in
theorem kt_X12_settle_1 (g : gx_T) : ∀ q ∈ k_X12_settle_1, gx_E g gc_md RX12 cX12_settle 2 (none) "settle" q.1 q.2 := List.forall_mem_cons.mpr ⟨(gs_gf (ref := "GriefCranesModel") dX12_settle_57 (gx_mem 1022 (by decide +kernel) (by decide +kernel)) (Or.inl rfl) gf_12_25), List.forall_mem_cons.mpr ⟨
  (gs_aload_n dX12_settle_60 rfl), List.forall_mem_cons.mpr ⟨
  (gs_gf (ref := "GriefCranesModel") dX12_settle_61 (gx_mem 1024 (by decide +kernel) (by decide +kernel)) (Or.inl rfl) gf_12_27), List.forall_mem_cons.mpr ⟨
  (gs_iaload dX12_settle_64), List.forall_mem_cons.mpr ⟨
  (gs_ineg dX12_settle_65), List.forall_mem_cons.mpr ⟨
  (gs_cv dX12_settle_66 (fun q hq => by
      simp only [List.mem_cons, List.not_mem_nil, or_false] at hq
      subst hq
      exact Or.inl ⟨_, rfl, by decide, by decide +kernel, by decide +kernel, List.forall_mem_cons.mpr ⟨gx_mem 1324 (by decide +kernel) (by decide +kernel), List.forall_mem_cons.mpr ⟨gx_mem 1326 (by decide +kernel) (by decide +kernel), List.forall_mem_cons.mpr ⟨gx_mem 36 (by decide +kernel) (by decide +kernel), List.forall_mem_cons.mpr ⟨gx_mem 96 (by decide +kernel) (by decide +kernel), List.forall_mem_cons.mpr ⟨cw_1327, fun _ h => absurd h List.not_mem_nil⟩⟩⟩⟩⟩⟩)), List.forall_mem_cons.mpr ⟨
  (gs_goto dX12_settle_69 rfl), List.forall_mem_cons.mpr ⟨
  (gs_rv dX12_settle_72), fun _ h => absurd h List.not_mem_nil⟩⟩⟩⟩⟩⟩⟩⟩
theorem kt_X12_settle (g : gx_T) : ∀ q ∈ k_X12_settle, gx_E g gc_md RX12 cX12_settle 2 (none) "settle" q.1 q.2 := List.forall_mem_append.mpr ⟨kt_X12_settle_0 g, kt_X12_settle_1 g⟩
set_option maxRecDepth 20000 in
theorem dX12_place_0 : decode cX12_place 0 = .ok (.iload_n 1, 1) := by decide +kernel
set_option maxRecDepth 20000 in
theorem dX12_place_1 : decode cX12_place 1 = .ok (.tableswitch 99 103 120 #[95, 97, 99, 99, 89, 99, 99, 99, 99, 87, 99, 99, 99, 99, 99, 91, 99, 93], 87) := by decide +kernel
set_option maxRecDepth 20000 in
theorem dX12_place_88 : decode cX12_place 88 = .ok (.iconst 0, 1) := by decide +kernel
set_option maxRecDepth 20000 in
theorem dX12_place_89 : decode cX12_place 89 = .ok (.ireturn, 1) := by decide +kernel
set_option maxRecDepth 20000 in
theorem dX12_place_90 : decode cX12_place 90 = .ok (.iconst 1, 1) := by decide +kernel
set_option maxRecDepth 20000 in
theorem dX12_place_91 : decode cX12_place 91 = .ok (.ireturn, 1) := by decide +kernel
set_option maxRecDepth 20000 in
theorem dX12_place_92 : decode cX12_place 92 = .ok (.iconst 2, 1) := by decide +kernel
set_option maxRecDepth 20000 in
theorem dX12_place_93 : decode cX12_place 93 = .ok (.ireturn, 1) := by decide +kernel
set_option maxRecDepth 20000 in
theorem dX12_place_94 : decode cX12_place 94 = .ok (.iconst 3, 1) := by decide +kernel
set_option maxRecDepth 20000 in
theorem dX12_place_95 : decode cX12_place 95 = .ok (.ireturn, 1) := by decide +kernel
set_option maxRecDepth 20000 in
theorem dX12_place_96 : decode cX12_place 96 = .ok (.iconst 4, 1) := by decide +kernel
set_option maxRecDepth 20000 in
theorem dX12_place_97 : decode cX12_place 97 = .ok (.ireturn, 1) := by decide +kernel
set_option maxRecDepth 20000 in
theorem dX12_place_98 : decode cX12_place 98 = .ok (.iconst 5, 1) := by decide +kernel
set_option maxRecDepth 20000 in
theorem dX12_place_99 : decode cX12_place 99 = .ok (.ireturn, 1) := by decide +kernel
set_option maxRecDepth 20000 in
theorem dX12_place_100 : decode cX12_place 100 = .ok (.iconst (-1), 1) := by decide +kernel
set_option maxRecDepth 20000 in
theorem dX12_place_101 : decode cX12_place 101 = .ok (.ireturn, 1) := by decide +kernel
set_option maxRecDepth 20000 in
theorem kt_X12_place_0 (g : gx_T) : ∀ q ∈ k_X12_place_0, gx_E g gc_md RX12 cX12_place 2 (some .int) "place" q.1 q.2 := List.forall_mem_cons.mpr ⟨(gs_iload_n dX12_place_0 rfl), List.forall_mem_cons.mpr ⟨
  (gs_tsw (lo := 103) (offs := [95, 97, 99, 99, 89, 99, 99, 99, 99, 87, 99, 99, 99, 99, 99, 91, 99, 93]) dX12_place_1 (by decide +kernel) (by decide +kernel)), List.forall_mem_cons.mpr ⟨
  (gs_iconst dX12_place_88 rfl), List.forall_mem_cons.mpr ⟨
  (gs_ri dX12_place_89), List.forall_mem_cons.mpr ⟨
  (gs_iconst dX12_place_90 rfl), List.forall_mem_cons.mpr ⟨
  (gs_ri dX12_place_91), List.forall_mem_cons.mpr ⟨
  (gs_iconst dX12_place_92 rfl), List.forall_mem_cons.mpr ⟨
  (gs_ri dX12_place_93), List.forall_mem_cons.mpr ⟨
  (gs_iconst dX12_place_94 rfl), List.forall_mem_cons.mpr ⟨
  (gs_ri dX12_place_95), List.forall_mem_cons.mpr ⟨
  (gs_iconst dX12_place_96 rfl), List.forall_mem_cons.mpr ⟨
  (gs_ri dX12_place_97), List.forall_mem_cons.mpr ⟨
  (gs_iconst dX12_place_98 rfl), List.forall_mem_cons.mpr ⟨
  (gs_ri dX12_place_99), List.forall_mem_cons.mpr ⟨
  (gs_iconst dX12_place_100 rfl), List.forall_mem_cons.mpr ⟨
  (gs_ri dX12_place_101), fun _ h => absurd h List.not_mem_nil⟩⟩⟩⟩⟩⟩⟩⟩⟩⟩⟩⟩⟩⟩⟩⟩
theorem kt_X12_place (g : gx_T) : ∀ q ∈ k_X12_place, gx_E g gc_md RX12 cX12_place 2 (some .int) "place" q.1 q.2 := kt_X12_place_0 g
set_option maxRecDepth 20000 in
theorem dX12_takesTest_0 : decode cX12_takesTest 0 = .ok (.aload_n 0, 1) := by decide +kernel
set_option maxRecDepth 20000 in
theorem dX12_takesTest_1 : decode cX12_takesTest 1 = .ok (.aload_n 0, 1) := by decide +kernel
set_option maxRecDepth 20000 in
theorem dX12_takesTest_2 : decode cX12_takesTest 2 = .ok (.invokevirtual 269, 3) := by decide +kernel
set_option maxRecDepth 20000 in
theorem dX12_takesTest_5 : decode cX12_takesTest 5 = .ok (.invokevirtual 284, 3) := by decide +kernel
set_option maxRecDepth 20000 in
theorem dX12_takesTest_8 : decode cX12_takesTest 8 = .ok (.istore_n 1, 1) := by decide +kernel
set_option maxRecDepth 20000 in
theorem dX12_takesTest_9 : decode cX12_takesTest 9 = .ok (.iload_n 1, 1) := by decide +kernel
set_option maxRecDepth 20000 in
theorem dX12_takesTest_10 : decode cX12_takesTest 10 = .ok (.ifCond .ge 5, 3) := by decide +kernel
set_option maxRecDepth 20000 in
theorem dX12_takesTest_13 : decode cX12_takesTest 13 = .ok (.iconst 0, 1) := by decide +kernel
set_option maxRecDepth 20000 in
theorem dX12_takesTest_14 : decode cX12_takesTest 14 = .ok (.ireturn, 1) := by decide +kernel
set_option maxRecDepth 20000 in
theorem dX12_takesTest_15 : decode cX12_takesTest 15 = .ok (.aload_n 0, 1) := by decide +kernel
set_option maxRecDepth 20000 in
theorem dX12_takesTest_16 : decode cX12_takesTest 16 = .ok (.dup, 1) := by decide +kernel
set_option maxRecDepth 20000 in
theorem dX12_takesTest_17 : decode cX12_takesTest 17 = .ok (.getfield 59, 3) := by decide +kernel
set_option maxRecDepth 20000 in
theorem dX12_takesTest_20 : decode cX12_takesTest 20 = .ok (.iconst 1, 1) := by decide +kernel
set_option maxRecDepth 20000 in
theorem dX12_takesTest_21 : decode cX12_takesTest 21 = .ok (.iadd, 1) := by decide +kernel
set_option maxRecDepth 20000 in
theorem dX12_takesTest_22 : decode cX12_takesTest 22 = .ok (.putfield 59, 3) := by decide +kernel
set_option maxRecDepth 20000 in
theorem dX12_takesTest_25 : decode cX12_takesTest 25 = .ok (.aload_n 0, 1) := by decide +kernel
set_option maxRecDepth 20000 in
theorem dX12_takesTest_26 : decode cX12_takesTest 26 = .ok (.invokevirtual 269, 3) := by decide +kernel
set_option maxRecDepth 20000 in
theorem dX12_takesTest_29 : decode cX12_takesTest 29 = .ok (.istore_n 2, 1) := by decide +kernel
set_option maxRecDepth 20000 in
theorem dX12_takesTest_30 : decode cX12_takesTest 30 = .ok (.aload_n 0, 1) := by decide +kernel
set_option maxRecDepth 20000 in
theorem dX12_takesTest_31 : decode cX12_takesTest 31 = .ok (.iload_n 2, 1) := by decide +kernel
set_option maxRecDepth 20000 in
theorem dX12_takesTest_32 : decode cX12_takesTest 32 = .ok (.bipush 60, 2) := by decide +kernel
set_option maxRecDepth 20000 in
theorem dX12_takesTest_34 : decode cX12_takesTest 34 = .ok (.bipush 62, 2) := by decide +kernel
set_option maxRecDepth 20000 in
theorem dX12_takesTest_36 : decode cX12_takesTest 36 = .ok (.invokevirtual 255, 3) := by decide +kernel
set_option maxRecDepth 20000 in
theorem dX12_takesTest_39 : decode cX12_takesTest 39 = .ok (.ifCond .ne 5, 3) := by decide +kernel
set_option maxRecDepth 20000 in
theorem dX12_takesTest_42 : decode cX12_takesTest 42 = .ok (.iconst 0, 1) := by decide +kernel
set_option maxRecDepth 20000 in
theorem dX12_takesTest_43 : decode cX12_takesTest 43 = .ok (.ireturn, 1) := by decide +kernel
set_option maxRecDepth 20000 in
theorem dX12_takesTest_44 : decode cX12_takesTest 44 = .ok (.aload_n 0, 1) := by decide +kernel
set_option maxRecDepth 20000 in
theorem dX12_takesTest_45 : decode cX12_takesTest 45 = .ok (.dup, 1) := by decide +kernel
set_option maxRecDepth 20000 in
theorem dX12_takesTest_46 : decode cX12_takesTest 46 = .ok (.getfield 59, 3) := by decide +kernel
set_option maxRecDepth 20000 in
theorem dX12_takesTest_49 : decode cX12_takesTest 49 = .ok (.iconst 1, 1) := by decide +kernel
set_option maxRecDepth 20000 in
theorem dX12_takesTest_50 : decode cX12_takesTest 50 = .ok (.iadd, 1) := by decide +kernel
set_option maxRecDepth 20000 in
theorem dX12_takesTest_51 : decode cX12_takesTest 51 = .ok (.putfield 59, 3) := by decide +kernel
set_option maxRecDepth 20000 in
theorem dX12_takesTest_54 : decode cX12_takesTest 54 = .ok (.aload_n 0, 1) := by decide +kernel
set_option maxRecDepth 20000 in
theorem dX12_takesTest_55 : decode cX12_takesTest 55 = .ok (.invokevirtual 288, 3) := by decide +kernel
set_option maxRecDepth 20000 in
theorem dX12_takesTest_58 : decode cX12_takesTest 58 = .ok (.ifCond .ne 5, 3) := by decide +kernel
set_option maxRecDepth 20000 in
theorem dX12_takesTest_61 : decode cX12_takesTest 61 = .ok (.iconst 0, 1) := by decide +kernel
set_option maxRecDepth 20000 in
theorem dX12_takesTest_62 : decode cX12_takesTest 62 = .ok (.ireturn, 1) := by decide +kernel
set_option maxRecDepth 20000 in
theorem dX12_takesTest_63 : decode cX12_takesTest 63 = .ok (.aload_n 0, 1) := by decide +kernel
set_option maxRecDepth 20000 in
theorem dX12_takesTest_64 : decode cX12_takesTest 64 = .ok (.sipush 1000, 3) := by decide +kernel
set_option maxRecDepth 20000 in
theorem dX12_takesTest_67 : decode cX12_takesTest 67 = .ok (.iload_n 1, 1) := by decide +kernel
set_option maxRecDepth 20000 in
theorem dX12_takesTest_68 : decode cX12_takesTest 68 = .ok (.imul, 1) := by decide +kernel
set_option maxRecDepth 20000 in
theorem dX12_takesTest_69 : decode cX12_takesTest 69 = .ok (.bipush 100, 2) := by decide +kernel
set_option maxRecDepth 20000 in
theorem dX12_takesTest_71 : decode cX12_takesTest 71 = .ok (.iload_n 2, 1) := by decide +kernel
set_option maxRecDepth 20000 in
theorem dX12_takesTest_72 : decode cX12_takesTest 72 = .ok (.bipush 60, 2) := by decide +kernel
set_option maxRecDepth 20000 in
theorem dX12_takesTest_74 : decode cX12_takesTest 74 = .ok (.isub, 1) := by decide +kernel
set_option maxRecDepth 20000 in
theorem dX12_takesTest_75 : decode cX12_takesTest 75 = .ok (.imul, 1) := by decide +kernel
set_option maxRecDepth 20000 in
theorem dX12_takesTest_76 : decode cX12_takesTest 76 = .ok (.iadd, 1) := by decide +kernel
set_option maxRecDepth 20000 in
theorem dX12_takesTest_77 : decode cX12_takesTest 77 = .ok (.aload_n 0, 1) := by decide +kernel
set_option maxRecDepth 20000 in
theorem dX12_takesTest_78 : decode cX12_takesTest 78 = .ok (.getfield 62, 3) := by decide +kernel
set_option maxRecDepth 20000 in
theorem dX12_takesTest_81 : decode cX12_takesTest 81 = .ok (.iadd, 1) := by decide +kernel
set_option maxRecDepth 20000 in
theorem dX12_takesTest_82 : decode cX12_takesTest 82 = .ok (.invokevirtual 280, 3) := by decide +kernel
set_option maxRecDepth 20000 in
theorem dX12_takesTest_85 : decode cX12_takesTest 85 = .ok (.aload_n 0, 1) := by decide +kernel
set_option maxRecDepth 20000 in
theorem dX12_takesTest_86 : decode cX12_takesTest 86 = .ok (.invokevirtual 291, 3) := by decide +kernel
set_option maxRecDepth 20000 in
theorem dX12_takesTest_89 : decode cX12_takesTest 89 = .ok (.iconst 1, 1) := by decide +kernel
set_option maxRecDepth 20000 in
theorem dX12_takesTest_90 : decode cX12_takesTest 90 = .ok (.ireturn, 1) := by decide +kernel
set_option maxRecDepth 20000 in
theorem kt_X12_takesTest_0 (g : gx_T) : ∀ q ∈ k_X12_takesTest_0, gx_E g gc_md RX12 cX12_takesTest 3 (some .boolean) "takesTest" q.1 q.2 := List.forall_mem_cons.mpr ⟨(gs_aload_n dX12_takesTest_0 rfl), List.forall_mem_cons.mpr ⟨
  (gs_aload_n dX12_takesTest_1 rfl), List.forall_mem_cons.mpr ⟨
  (gs_cv dX12_takesTest_2 (fun q hq => by
      simp only [List.mem_cons, List.not_mem_nil, or_false] at hq
      subst hq
      exact Or.inl ⟨_, rfl, by decide, by decide +kernel, by decide +kernel, List.forall_mem_cons.mpr ⟨gx_mem 1292 (by decide +kernel) (by decide +kernel), List.forall_mem_cons.mpr ⟨gx_mem 1294 (by decide +kernel) (by decide +kernel), List.forall_mem_cons.mpr ⟨gx_mem 28 (by decide +kernel) (by decide +kernel), List.forall_mem_cons.mpr ⟨gx_mem 96 (by decide +kernel) (by decide +kernel), List.forall_mem_cons.mpr ⟨cw_1295, fun _ h => absurd h List.not_mem_nil⟩⟩⟩⟩⟩⟩)), List.forall_mem_cons.mpr ⟨
  (gs_cv dX12_takesTest_5 (fun q hq => by
      simp only [List.mem_cons, List.not_mem_nil, or_false] at hq
      subst hq
      exact Or.inl ⟨_, rfl, by decide, by decide +kernel, by decide +kernel, List.forall_mem_cons.mpr ⟨gx_mem 1320 (by decide +kernel) (by decide +kernel), List.forall_mem_cons.mpr ⟨gx_mem 1322 (by decide +kernel) (by decide +kernel), List.forall_mem_cons.mpr ⟨gx_mem 35 (by decide +kernel) (by decide +kernel), List.forall_mem_cons.mpr ⟨gx_mem 96 (by decide +kernel) (by decide +kernel), List.forall_mem_cons.mpr ⟨cw_1323, fun _ h => absurd h List.not_mem_nil⟩⟩⟩⟩⟩⟩)), List.forall_mem_cons.mpr ⟨
  (gs_istore_n dX12_takesTest_8 rfl), List.forall_mem_cons.mpr ⟨
  (gs_iload_n dX12_takesTest_9 rfl), List.forall_mem_cons.mpr ⟨
  (gs_if_ge dX12_takesTest_10 rfl), List.forall_mem_cons.mpr ⟨
  (gs_iconst dX12_takesTest_13 rfl), List.forall_mem_cons.mpr ⟨
  (gs_rn dX12_takesTest_14 (by decide)), List.forall_mem_cons.mpr ⟨
  (gs_aload_n dX12_takesTest_15 rfl), List.forall_mem_cons.mpr ⟨
  (gs_dup dX12_takesTest_16), List.forall_mem_cons.mpr ⟨
  (gs_gf (ref := "GriefCranesModel") dX12_takesTest_17 (gx_mem 1013 (by decide +kernel) (by decide +kernel)) (Or.inl rfl) gf_12_16), List.forall_mem_cons.mpr ⟨
  (gs_iconst dX12_takesTest_20 rfl), List.forall_mem_cons.mpr ⟨
  (gs_iadd dX12_takesTest_21), List.forall_mem_cons.mpr ⟨
  (gs_pf (ref := "GriefCranesModel") dX12_takesTest_22 (gx_mem 1013 (by decide +kernel) (by decide +kernel)) (Or.inl rfl) gf_12_16 (by decide +kernel)), List.forall_mem_cons.mpr ⟨
  (gs_aload_n dX12_takesTest_25 rfl), List.forall_mem_cons.mpr ⟨
  (gs_cv dX12_takesTest_26 (fun q hq => by
      simp only [List.mem_cons, List.not_mem_nil, or_false] at hq
      subst hq
      exact Or.inl ⟨_, rfl, by decide, by decide +kernel, by decide +kernel, List.forall_mem_cons.mpr ⟨gx_mem 1292 (by decide +kernel) (by decide +kernel), List.forall_mem_cons.mpr ⟨gx_mem 1294 (by decide +kernel) (by decide +kernel), List.forall_mem_cons.mpr ⟨gx_mem 28 (by decide +kernel) (by decide +kernel), List.forall_mem_cons.mpr ⟨gx_mem 96 (by decide +kernel) (by decide +kernel), List.forall_mem_cons.mpr ⟨cw_1295, fun _ h => absurd h List.not_mem_nil⟩⟩⟩⟩⟩⟩)), List.forall_mem_cons.mpr ⟨
  (gs_istore_n dX12_takesTest_29 rfl), List.forall_mem_cons.mpr ⟨
  (gs_aload_n dX12_takesTest_30 rfl), List.forall_mem_cons.mpr ⟨
  (gs_iload_n dX12_takesTest_31 rfl), List.forall_mem_cons.mpr ⟨
  (gs_bipush dX12_takesTest_32 rfl), List.forall_mem_cons.mpr ⟨
  (gs_bipush dX12_takesTest_34 rfl), List.forall_mem_cons.mpr ⟨
  (gs_cv dX12_takesTest_36 (fun q hq => by
      simp only [List.mem_cons, List.not_mem_nil, or_false] at hq
      subst hq
      exact Or.inl ⟨_, rfl, by decide, by decide +kernel, by decide +kernel, List.forall_mem_cons.mpr ⟨gx_mem 1240 (by decide +kernel) (by decide +kernel), List.forall_mem_cons.mpr ⟨gx_mem 1242 (by decide +kernel) (by decide +kernel), List.forall_mem_cons.mpr ⟨gx_mem 21 (by decide +kernel) (by decide +kernel), List.forall_mem_cons.mpr ⟨gx_mem 96 (by decide +kernel) (by decide +kernel), List.forall_mem_cons.mpr ⟨cw_1243, fun _ h => absurd h List.not_mem_nil⟩⟩⟩⟩⟩⟩)), List.forall_mem_cons.mpr ⟨
  (gs_if_ne dX12_takesTest_39 rfl), List.forall_mem_cons.mpr ⟨
  (gs_iconst dX12_takesTest_42 rfl), List.forall_mem_cons.mpr ⟨
  (gs_rn dX12_takesTest_43 (by decide)), List.forall_mem_cons.mpr ⟨
  (gs_aload_n dX12_takesTest_44 rfl), List.forall_mem_cons.mpr ⟨
  (gs_dup dX12_takesTest_45), List.forall_mem_cons.mpr ⟨
  (gs_gf (ref := "GriefCranesModel") dX12_takesTest_46 (gx_mem 1013 (by decide +kernel) (by decide +kernel)) (Or.inl rfl) gf_12_16), List.forall_mem_cons.mpr ⟨
  (gs_iconst dX12_takesTest_49 rfl), List.forall_mem_cons.mpr ⟨
  (gs_iadd dX12_takesTest_50), List.forall_mem_cons.mpr ⟨
  (gs_pf (ref := "GriefCranesModel") dX12_takesTest_51 (gx_mem 1013 (by decide +kernel) (by decide +kernel)) (Or.inl rfl) gf_12_16 (by decide +kernel)), fun _ h => absurd h List.not_mem_nil⟩⟩⟩⟩⟩⟩⟩⟩⟩⟩⟩⟩⟩⟩⟩⟩⟩⟩⟩⟩⟩⟩⟩⟩⟩⟩⟩⟩⟩⟩⟩⟩
set_option maxRecDepth 20000 in
theorem kt_X12_takesTest_1 (g : gx_T) : ∀ q ∈ k_X12_takesTest_1, gx_E g gc_md RX12 cX12_takesTest 3 (some .boolean) "takesTest" q.1 q.2 := List.forall_mem_cons.mpr ⟨(gs_aload_n dX12_takesTest_54 rfl), List.forall_mem_cons.mpr ⟨
  (gs_cv dX12_takesTest_55 (fun q hq => by
      simp only [List.mem_cons, List.not_mem_nil, or_false] at hq
      subst hq
      exact Or.inl ⟨_, rfl, by decide, by decide +kernel, by decide +kernel, List.forall_mem_cons.mpr ⟨gx_mem 1304 (by decide +kernel) (by decide +kernel), List.forall_mem_cons.mpr ⟨gx_mem 1306 (by decide +kernel) (by decide +kernel), List.forall_mem_cons.mpr ⟨gx_mem 31 (by decide +kernel) (by decide +kernel), List.forall_mem_cons.mpr ⟨gx_mem 96 (by decide +kernel) (by decide +kernel), List.forall_mem_cons.mpr ⟨cw_1307, fun _ h => absurd h List.not_mem_nil⟩⟩⟩⟩⟩⟩)), List.forall_mem_cons.mpr ⟨
  (gs_if_ne dX12_takesTest_58 rfl), List.forall_mem_cons.mpr ⟨
  (gs_iconst dX12_takesTest_61 rfl), List.forall_mem_cons.mpr ⟨
  (gs_rn dX12_takesTest_62 (by decide)), List.forall_mem_cons.mpr ⟨
  (gs_aload_n dX12_takesTest_63 rfl), List.forall_mem_cons.mpr ⟨
  (gs_sipush dX12_takesTest_64 rfl), List.forall_mem_cons.mpr ⟨
  (gs_iload_n dX12_takesTest_67 rfl), List.forall_mem_cons.mpr ⟨
  (gs_imul dX12_takesTest_68), List.forall_mem_cons.mpr ⟨
  (gs_bipush dX12_takesTest_69 rfl), List.forall_mem_cons.mpr ⟨
  (gs_iload_n dX12_takesTest_71 rfl), List.forall_mem_cons.mpr ⟨
  (gs_bipush dX12_takesTest_72 rfl), List.forall_mem_cons.mpr ⟨
  (gs_isub dX12_takesTest_74), List.forall_mem_cons.mpr ⟨
  (gs_imul dX12_takesTest_75), List.forall_mem_cons.mpr ⟨
  (gs_iadd dX12_takesTest_76), List.forall_mem_cons.mpr ⟨
  (gs_aload_n dX12_takesTest_77 rfl), List.forall_mem_cons.mpr ⟨
  (gs_gf (ref := "GriefCranesModel") dX12_takesTest_78 (gx_mem 1014 (by decide +kernel) (by decide +kernel)) (Or.inl rfl) gf_12_17), List.forall_mem_cons.mpr ⟨
  (gs_iadd dX12_takesTest_81), List.forall_mem_cons.mpr ⟨
  (gs_cv dX12_takesTest_82 (fun q hq => by
      simp only [List.mem_cons, List.not_mem_nil, or_false] at hq
      subst hq
      exact Or.inl ⟨_, rfl, by decide, by decide +kernel, by decide +kernel, List.forall_mem_cons.mpr ⟨gx_mem 1324 (by decide +kernel) (by decide +kernel), List.forall_mem_cons.mpr ⟨gx_mem 1326 (by decide +kernel) (by decide +kernel), List.forall_mem_cons.mpr ⟨gx_mem 36 (by decide +kernel) (by decide +kernel), List.forall_mem_cons.mpr ⟨gx_mem 96 (by decide +kernel) (by decide +kernel), List.forall_mem_cons.mpr ⟨cw_1327, fun _ h => absurd h List.not_mem_nil⟩⟩⟩⟩⟩⟩)), List.forall_mem_cons.mpr ⟨
  (gs_aload_n dX12_takesTest_85 rfl), List.forall_mem_cons.mpr ⟨
  (gs_cv dX12_takesTest_86 (fun q hq => by
      simp only [List.mem_cons, List.not_mem_nil, or_false] at hq
      subst hq
      exact Or.inl ⟨_, rfl, by decide, by decide +kernel, by decide +kernel, List.forall_mem_cons.mpr ⟨gx_mem 1328 (by decide +kernel) (by decide +kernel), List.forall_mem_cons.mpr ⟨gx_mem 1330 (by decide +kernel) (by decide +kernel), List.forall_mem_cons.mpr ⟨gx_mem 37 (by decide +kernel) (by decide +kernel), List.forall_mem_cons.mpr ⟨gx_mem 96 (by decide +kernel) (by decide +kernel), List.forall_mem_cons.mpr ⟨cw_1331, fun _ h => absurd h List.not_mem_nil⟩⟩⟩⟩⟩⟩)), List.forall_mem_cons.mpr ⟨
  (gs_iconst dX12_takesTest_89 rfl), List.forall_mem_cons.mpr ⟨
  (gs_rn dX12_takesTest_90 (by decide)), fun _ h => absurd h List.not_mem_nil⟩⟩⟩⟩⟩⟩⟩⟩⟩⟩⟩⟩⟩⟩⟩⟩⟩⟩⟩⟩⟩⟩⟩
theorem kt_X12_takesTest (g : gx_T) : ∀ q ∈ k_X12_takesTest, gx_E g gc_md RX12 cX12_takesTest 3 (some .boolean) "takesTest" q.1 q.2 := List.forall_mem_append.mpr ⟨kt_X12_takesTest_0 g, kt_X12_takesTest_1 g⟩
set_option maxRecDepth 20000 in
theorem dX12_takesE_0 : decode cX12_takesE 0 = .ok (.aload_n 0, 1) := by decide +kernel
set_option maxRecDepth 20000 in
theorem dX12_takesE_1 : decode cX12_takesE 1 = .ok (.iconst 0, 1) := by decide +kernel
set_option maxRecDepth 20000 in
theorem dX12_takesE_2 : decode cX12_takesE 2 = .ok (.putfield 92, 3) := by decide +kernel
set_option maxRecDepth 20000 in
theorem dX12_takesE_5 : decode cX12_takesE 5 = .ok (.aload_n 0, 1) := by decide +kernel
set_option maxRecDepth 20000 in
theorem dX12_takesE_6 : decode cX12_takesE 6 = .ok (.iconst 0, 1) := by decide +kernel
set_option maxRecDepth 20000 in
theorem dX12_takesE_7 : decode cX12_takesE 7 = .ok (.putfield 95, 3) := by decide +kernel
set_option maxRecDepth 20000 in
theorem dX12_takesE_10 : decode cX12_takesE 10 = .ok (.aload_n 0, 1) := by decide +kernel
set_option maxRecDepth 20000 in
theorem dX12_takesE_11 : decode cX12_takesE 11 = .ok (.getfield 77, 3) := by decide +kernel
set_option maxRecDepth 20000 in
theorem dX12_takesE_14 : decode cX12_takesE 14 = .ok (.iload_n 1, 1) := by decide +kernel
set_option maxRecDepth 20000 in
theorem dX12_takesE_15 : decode cX12_takesE 15 = .ok (.aload_n 0, 1) := by decide +kernel
set_option maxRecDepth 20000 in
theorem dX12_takesE_16 : decode cX12_takesE 16 = .ok (.getfield 89, 3) := by decide +kernel
set_option maxRecDepth 20000 in
theorem dX12_takesE_19 : decode cX12_takesE 19 = .ok (.iastore, 1) := by decide +kernel
set_option maxRecDepth 20000 in
theorem dX12_takesE_20 : decode cX12_takesE 20 = .ok (.iconst 1, 1) := by decide +kernel
set_option maxRecDepth 20000 in
theorem dX12_takesE_21 : decode cX12_takesE 21 = .ok (.istore_n 2, 1) := by decide +kernel
set_option maxRecDepth 20000 in
theorem dX12_takesE_22 : decode cX12_takesE 22 = .ok (.aload_n 0, 1) := by decide +kernel
set_option maxRecDepth 20000 in
theorem dX12_takesE_23 : decode cX12_takesE 23 = .ok (.invokevirtual 269, 3) := by decide +kernel
set_option maxRecDepth 20000 in
theorem dX12_takesE_26 : decode cX12_takesE 26 = .ok (.istore_n 3, 1) := by decide +kernel
set_option maxRecDepth 20000 in
theorem dX12_takesE_27 : decode cX12_takesE 27 = .ok (.iload_n 2, 1) := by decide +kernel
set_option maxRecDepth 20000 in
theorem dX12_takesE_28 : decode cX12_takesE 28 = .ok (.ifCond .eq 82, 3) := by decide +kernel
set_option maxRecDepth 20000 in
theorem dX12_takesE_31 : decode cX12_takesE 31 = .ok (.iload_n 3, 1) := by decide +kernel
set_option maxRecDepth 20000 in
theorem dX12_takesE_32 : decode cX12_takesE 32 = .ok (.bipush 33, 2) := by decide +kernel
set_option maxRecDepth 20000 in
theorem dX12_takesE_34 : decode cX12_takesE 34 = .ok (.if_icmp .eq 9, 3) := by decide +kernel
set_option maxRecDepth 20000 in
theorem dX12_takesE_37 : decode cX12_takesE 37 = .ok (.iload_n 3, 1) := by decide +kernel
set_option maxRecDepth 20000 in
theorem dX12_takesE_38 : decode cX12_takesE 38 = .ok (.bipush 40, 2) := by decide +kernel
set_option maxRecDepth 20000 in
theorem dX12_takesE_40 : decode cX12_takesE 40 = .ok (.if_icmp .ne 56, 3) := by decide +kernel
set_option maxRecDepth 20000 in
theorem dX12_takesE_43 : decode cX12_takesE 43 = .ok (.aload_n 0, 1) := by decide +kernel
set_option maxRecDepth 20000 in
theorem dX12_takesE_44 : decode cX12_takesE 44 = .ok (.getfield 95, 3) := by decide +kernel
set_option maxRecDepth 20000 in
theorem dX12_takesE_47 : decode cX12_takesE 47 = .ok (.iconst 4, 1) := by decide +kernel
set_option maxRecDepth 20000 in
theorem dX12_takesE_48 : decode cX12_takesE 48 = .ok (.if_icmp .ne 5, 3) := by decide +kernel
set_option maxRecDepth 20000 in
theorem dX12_takesE_51 : decode cX12_takesE 51 = .ok (.iconst 0, 1) := by decide +kernel
set_option maxRecDepth 20000 in
theorem dX12_takesE_52 : decode cX12_takesE 52 = .ok (.ireturn, 1) := by decide +kernel
set_option maxRecDepth 20000 in
theorem dX12_takesE_53 : decode cX12_takesE 53 = .ok (.aload_n 0, 1) := by decide +kernel
set_option maxRecDepth 20000 in
theorem dX12_takesE_54 : decode cX12_takesE 54 = .ok (.dup, 1) := by decide +kernel
set_option maxRecDepth 20000 in
theorem dX12_takesE_55 : decode cX12_takesE 55 = .ok (.getfield 95, 3) := by decide +kernel
set_option maxRecDepth 20000 in
theorem dX12_takesE_58 : decode cX12_takesE 58 = .ok (.iconst 1, 1) := by decide +kernel
set_option maxRecDepth 20000 in
theorem dX12_takesE_59 : decode cX12_takesE 59 = .ok (.iadd, 1) := by decide +kernel
set_option maxRecDepth 20000 in
theorem dX12_takesE_60 : decode cX12_takesE 60 = .ok (.putfield 95, 3) := by decide +kernel
set_option maxRecDepth 20000 in
theorem dX12_takesE_63 : decode cX12_takesE 63 = .ok (.aload_n 0, 1) := by decide +kernel
set_option maxRecDepth 20000 in
theorem dX12_takesE_64 : decode cX12_takesE 64 = .ok (.getfield 86, 3) := by decide +kernel
set_option maxRecDepth 20000 in
theorem dX12_takesE_67 : decode cX12_takesE 67 = .ok (.aload_n 0, 1) := by decide +kernel
set_option maxRecDepth 20000 in
theorem dX12_takesE_68 : decode cX12_takesE 68 = .ok (.getfield 92, 3) := by decide +kernel
set_option maxRecDepth 20000 in
theorem dX12_takesE_71 : decode cX12_takesE 71 = .ok (.iload_n 3, 1) := by decide +kernel
set_option maxRecDepth 20000 in
theorem dX12_takesE_72 : decode cX12_takesE 72 = .ok (.iastore, 1) := by decide +kernel
set_option maxRecDepth 20000 in
theorem dX12_takesE_73 : decode cX12_takesE 73 = .ok (.aload_n 0, 1) := by decide +kernel
set_option maxRecDepth 20000 in
theorem dX12_takesE_74 : decode cX12_takesE 74 = .ok (.dup, 1) := by decide +kernel
set_option maxRecDepth 20000 in
theorem dX12_takesE_75 : decode cX12_takesE 75 = .ok (.getfield 92, 3) := by decide +kernel
set_option maxRecDepth 20000 in
theorem dX12_takesE_78 : decode cX12_takesE 78 = .ok (.iconst 1, 1) := by decide +kernel
set_option maxRecDepth 20000 in
theorem dX12_takesE_79 : decode cX12_takesE 79 = .ok (.iadd, 1) := by decide +kernel
set_option maxRecDepth 20000 in
theorem dX12_takesE_80 : decode cX12_takesE 80 = .ok (.putfield 92, 3) := by decide +kernel
set_option maxRecDepth 20000 in
theorem dX12_takesE_83 : decode cX12_takesE 83 = .ok (.aload_n 0, 1) := by decide +kernel
set_option maxRecDepth 20000 in
theorem dX12_takesE_84 : decode cX12_takesE 84 = .ok (.dup, 1) := by decide +kernel
set_option maxRecDepth 20000 in
theorem dX12_takesE_85 : decode cX12_takesE 85 = .ok (.getfield 59, 3) := by decide +kernel
set_option maxRecDepth 20000 in
theorem dX12_takesE_88 : decode cX12_takesE 88 = .ok (.iconst 1, 1) := by decide +kernel
set_option maxRecDepth 20000 in
theorem dX12_takesE_89 : decode cX12_takesE 89 = .ok (.iadd, 1) := by decide +kernel
set_option maxRecDepth 20000 in
theorem dX12_takesE_90 : decode cX12_takesE 90 = .ok (.putfield 59, 3) := by decide +kernel
set_option maxRecDepth 20000 in
theorem dX12_takesE_93 : decode cX12_takesE 93 = .ok (.goto (-71), 3) := by decide +kernel
set_option maxRecDepth 20000 in
theorem dX12_takesE_96 : decode cX12_takesE 96 = .ok (.aload_n 0, 1) := by decide +kernel
set_option maxRecDepth 20000 in
theorem dX12_takesE_97 : decode cX12_takesE 97 = .ok (.invokevirtual 294, 3) := by decide +kernel
set_option maxRecDepth 20000 in
theorem dX12_takesE_100 : decode cX12_takesE 100 = .ok (.ifCond .eq 8, 3) := by decide +kernel
set_option maxRecDepth 20000 in
theorem dX12_takesE_103 : decode cX12_takesE 103 = .ok (.iconst 0, 1) := by decide +kernel
set_option maxRecDepth 20000 in
theorem dX12_takesE_104 : decode cX12_takesE 104 = .ok (.istore_n 2, 1) := by decide +kernel
set_option maxRecDepth 20000 in
theorem dX12_takesE_105 : decode cX12_takesE 105 = .ok (.goto (-83), 3) := by decide +kernel
set_option maxRecDepth 20000 in
theorem dX12_takesE_108 : decode cX12_takesE 108 = .ok (.iconst 0, 1) := by decide +kernel
set_option maxRecDepth 20000 in
theorem dX12_takesE_109 : decode cX12_takesE 109 = .ok (.ireturn, 1) := by decide +kernel
set_option maxRecDepth 20000 in
theorem dX12_takesE_110 : decode cX12_takesE 110 = .ok (.iload_n 3, 1) := by decide +kernel
set_option maxRecDepth 20000 in
theorem dX12_takesE_111 : decode cX12_takesE 111 = .ok (.bipush 38, 2) := by decide +kernel
set_option maxRecDepth 20000 in
theorem dX12_takesE_113 : decode cX12_takesE 113 = .ok (.if_icmp .eq 9, 3) := by decide +kernel
set_option maxRecDepth 20000 in
theorem dX12_takesE_116 : decode cX12_takesE 116 = .ok (.iload_n 3, 1) := by decide +kernel
set_option maxRecDepth 20000 in
theorem dX12_takesE_117 : decode cX12_takesE 117 = .ok (.bipush 124, 2) := by decide +kernel
set_option maxRecDepth 20000 in
theorem dX12_takesE_119 : decode cX12_takesE 119 = .ok (.if_icmp .ne 43, 3) := by decide +kernel
set_option maxRecDepth 20000 in
theorem dX12_takesE_122 : decode cX12_takesE 122 = .ok (.aload_n 0, 1) := by decide +kernel
set_option maxRecDepth 20000 in
theorem dX12_takesE_123 : decode cX12_takesE 123 = .ok (.iload_n 3, 1) := by decide +kernel
set_option maxRecDepth 20000 in
theorem dX12_takesE_124 : decode cX12_takesE 124 = .ok (.invokevirtual 297, 3) := by decide +kernel
set_option maxRecDepth 20000 in
theorem dX12_takesE_127 : decode cX12_takesE 127 = .ok (.aload_n 0, 1) := by decide +kernel
set_option maxRecDepth 20000 in
theorem dX12_takesE_128 : decode cX12_takesE 128 = .ok (.getfield 86, 3) := by decide +kernel
set_option maxRecDepth 20000 in
theorem dX12_takesE_131 : decode cX12_takesE 131 = .ok (.aload_n 0, 1) := by decide +kernel
set_option maxRecDepth 20000 in
theorem dX12_takesE_132 : decode cX12_takesE 132 = .ok (.getfield 92, 3) := by decide +kernel
set_option maxRecDepth 20000 in
theorem dX12_takesE_135 : decode cX12_takesE 135 = .ok (.iload_n 3, 1) := by decide +kernel
set_option maxRecDepth 20000 in
theorem dX12_takesE_136 : decode cX12_takesE 136 = .ok (.iastore, 1) := by decide +kernel
set_option maxRecDepth 20000 in
theorem dX12_takesE_137 : decode cX12_takesE 137 = .ok (.aload_n 0, 1) := by decide +kernel
set_option maxRecDepth 20000 in
theorem dX12_takesE_138 : decode cX12_takesE 138 = .ok (.dup, 1) := by decide +kernel
set_option maxRecDepth 20000 in
theorem dX12_takesE_139 : decode cX12_takesE 139 = .ok (.getfield 92, 3) := by decide +kernel
set_option maxRecDepth 20000 in
theorem dX12_takesE_142 : decode cX12_takesE 142 = .ok (.iconst 1, 1) := by decide +kernel
set_option maxRecDepth 20000 in
theorem dX12_takesE_143 : decode cX12_takesE 143 = .ok (.iadd, 1) := by decide +kernel
set_option maxRecDepth 20000 in
theorem dX12_takesE_144 : decode cX12_takesE 144 = .ok (.putfield 92, 3) := by decide +kernel
set_option maxRecDepth 20000 in
theorem dX12_takesE_147 : decode cX12_takesE 147 = .ok (.iconst 1, 1) := by decide +kernel
set_option maxRecDepth 20000 in
theorem dX12_takesE_148 : decode cX12_takesE 148 = .ok (.istore_n 2, 1) := by decide +kernel
set_option maxRecDepth 20000 in
theorem dX12_takesE_149 : decode cX12_takesE 149 = .ok (.aload_n 0, 1) := by decide +kernel
set_option maxRecDepth 20000 in
theorem dX12_takesE_150 : decode cX12_takesE 150 = .ok (.dup, 1) := by decide +kernel
set_option maxRecDepth 20000 in
theorem dX12_takesE_151 : decode cX12_takesE 151 = .ok (.getfield 59, 3) := by decide +kernel
set_option maxRecDepth 20000 in
theorem dX12_takesE_154 : decode cX12_takesE 154 = .ok (.iconst 1, 1) := by decide +kernel
set_option maxRecDepth 20000 in
theorem dX12_takesE_155 : decode cX12_takesE 155 = .ok (.iadd, 1) := by decide +kernel
set_option maxRecDepth 20000 in
theorem dX12_takesE_156 : decode cX12_takesE 156 = .ok (.putfield 59, 3) := by decide +kernel
set_option maxRecDepth 20000 in
theorem dX12_takesE_159 : decode cX12_takesE 159 = .ok (.goto (-137), 3) := by decide +kernel
set_option maxRecDepth 20000 in
theorem dX12_takesE_162 : decode cX12_takesE 162 = .ok (.aload_n 0, 1) := by decide +kernel
set_option maxRecDepth 20000 in
theorem dX12_takesE_163 : decode cX12_takesE 163 = .ok (.bipush 124, 2) := by decide +kernel
set_option maxRecDepth 20000 in
theorem dX12_takesE_165 : decode cX12_takesE 165 = .ok (.invokevirtual 297, 3) := by decide +kernel
set_option maxRecDepth 20000 in
theorem dX12_takesE_168 : decode cX12_takesE 168 = .ok (.aload_n 0, 1) := by decide +kernel
set_option maxRecDepth 20000 in
theorem dX12_takesE_169 : decode cX12_takesE 169 = .ok (.getfield 80, 3) := by decide +kernel
set_option maxRecDepth 20000 in
theorem dX12_takesE_172 : decode cX12_takesE 172 = .ok (.iload_n 1, 1) := by decide +kernel
set_option maxRecDepth 20000 in
theorem dX12_takesE_173 : decode cX12_takesE 173 = .ok (.aload_n 0, 1) := by decide +kernel
set_option maxRecDepth 20000 in
theorem dX12_takesE_174 : decode cX12_takesE 174 = .ok (.getfield 89, 3) := by decide +kernel
set_option maxRecDepth 20000 in
theorem dX12_takesE_177 : decode cX12_takesE 177 = .ok (.iastore, 1) := by decide +kernel
set_option maxRecDepth 20000 in
theorem dX12_takesE_178 : decode cX12_takesE 178 = .ok (.aload_n 0, 1) := by decide +kernel
set_option maxRecDepth 20000 in
theorem dX12_takesE_179 : decode cX12_takesE 179 = .ok (.getfield 92, 3) := by decide +kernel
set_option maxRecDepth 20000 in
theorem dX12_takesE_182 : decode cX12_takesE 182 = .ok (.ifCond .ne 5, 3) := by decide +kernel
set_option maxRecDepth 20000 in
theorem dX12_takesE_185 : decode cX12_takesE 185 = .ok (.iconst 1, 1) := by decide +kernel
set_option maxRecDepth 20000 in
theorem dX12_takesE_186 : decode cX12_takesE 186 = .ok (.ireturn, 1) := by decide +kernel
set_option maxRecDepth 20000 in
theorem dX12_takesE_187 : decode cX12_takesE 187 = .ok (.iload_n 3, 1) := by decide +kernel
set_option maxRecDepth 20000 in
theorem dX12_takesE_188 : decode cX12_takesE 188 = .ok (.bipush 41, 2) := by decide +kernel
set_option maxRecDepth 20000 in
theorem dX12_takesE_190 : decode cX12_takesE 190 = .ok (.if_icmp .eq 5, 3) := by decide +kernel
set_option maxRecDepth 20000 in
theorem dX12_takesE_193 : decode cX12_takesE 193 = .ok (.iconst 0, 1) := by decide +kernel
set_option maxRecDepth 20000 in
theorem dX12_takesE_194 : decode cX12_takesE 194 = .ok (.ireturn, 1) := by decide +kernel
set_option maxRecDepth 20000 in
theorem dX12_takesE_195 : decode cX12_takesE 195 = .ok (.aload_n 0, 1) := by decide +kernel
set_option maxRecDepth 20000 in
theorem dX12_takesE_196 : decode cX12_takesE 196 = .ok (.dup, 1) := by decide +kernel
set_option maxRecDepth 20000 in
theorem dX12_takesE_197 : decode cX12_takesE 197 = .ok (.getfield 92, 3) := by decide +kernel
set_option maxRecDepth 20000 in
theorem dX12_takesE_200 : decode cX12_takesE 200 = .ok (.iconst 1, 1) := by decide +kernel
set_option maxRecDepth 20000 in
theorem dX12_takesE_201 : decode cX12_takesE 201 = .ok (.isub, 1) := by decide +kernel
set_option maxRecDepth 20000 in
theorem dX12_takesE_202 : decode cX12_takesE 202 = .ok (.putfield 92, 3) := by decide +kernel
set_option maxRecDepth 20000 in
theorem dX12_takesE_205 : decode cX12_takesE 205 = .ok (.aload_n 0, 1) := by decide +kernel
set_option maxRecDepth 20000 in
theorem dX12_takesE_206 : decode cX12_takesE 206 = .ok (.dup, 1) := by decide +kernel
set_option maxRecDepth 20000 in
theorem dX12_takesE_207 : decode cX12_takesE 207 = .ok (.getfield 95, 3) := by decide +kernel
set_option maxRecDepth 20000 in
theorem dX12_takesE_210 : decode cX12_takesE 210 = .ok (.iconst 1, 1) := by decide +kernel
set_option maxRecDepth 20000 in
theorem dX12_takesE_211 : decode cX12_takesE 211 = .ok (.isub, 1) := by decide +kernel
set_option maxRecDepth 20000 in
theorem dX12_takesE_212 : decode cX12_takesE 212 = .ok (.putfield 95, 3) := by decide +kernel
set_option maxRecDepth 20000 in
theorem dX12_takesE_215 : decode cX12_takesE 215 = .ok (.aload_n 0, 1) := by decide +kernel
set_option maxRecDepth 20000 in
theorem dX12_takesE_216 : decode cX12_takesE 216 = .ok (.dup, 1) := by decide +kernel
set_option maxRecDepth 20000 in
theorem dX12_takesE_217 : decode cX12_takesE 217 = .ok (.getfield 59, 3) := by decide +kernel
set_option maxRecDepth 20000 in
theorem dX12_takesE_220 : decode cX12_takesE 220 = .ok (.iconst 1, 1) := by decide +kernel
set_option maxRecDepth 20000 in
theorem dX12_takesE_221 : decode cX12_takesE 221 = .ok (.iadd, 1) := by decide +kernel
set_option maxRecDepth 20000 in
theorem dX12_takesE_222 : decode cX12_takesE 222 = .ok (.putfield 59, 3) := by decide +kernel
set_option maxRecDepth 20000 in
theorem dX12_takesE_225 : decode cX12_takesE 225 = .ok (.aload_n 0, 1) := by decide +kernel
set_option maxRecDepth 20000 in
theorem dX12_takesE_226 : decode cX12_takesE 226 = .ok (.invokevirtual 291, 3) := by decide +kernel
set_option maxRecDepth 20000 in
theorem dX12_takesE_229 : decode cX12_takesE 229 = .ok (.goto (-207), 3) := by decide +kernel
set_option maxRecDepth 20000 in
theorem kt_X12_takesE_0 (g : gx_T) : ∀ q ∈ k_X12_takesE_0, gx_E g gc_md RX12 cX12_takesE 4 (some .boolean) "takesE" q.1 q.2 := List.forall_mem_cons.mpr ⟨(gs_aload_n dX12_takesE_0 rfl), List.forall_mem_cons.mpr ⟨
  (gs_iconst dX12_takesE_1 rfl), List.forall_mem_cons.mpr ⟨
  (gs_pf (ref := "GriefCranesModel") dX12_takesE_2 (gx_mem 1024 (by decide +kernel) (by decide +kernel)) (Or.inl rfl) gf_12_27 (by decide +kernel)), List.forall_mem_cons.mpr ⟨
  (gs_aload_n dX12_takesE_5 rfl), List.forall_mem_cons.mpr ⟨
  (gs_iconst dX12_takesE_6 rfl), List.forall_mem_cons.mpr ⟨
  (gs_pf (ref := "GriefCranesModel") dX12_takesE_7 (gx_mem 1025 (by decide +kernel) (by decide +kernel)) (Or.inl rfl) gf_12_28 (by decide +kernel)), List.forall_mem_cons.mpr ⟨
  (gs_aload_n dX12_takesE_10 rfl), List.forall_mem_cons.mpr ⟨
  (gs_gf (ref := "GriefCranesModel") dX12_takesE_11 (gx_mem 1019 (by decide +kernel) (by decide +kernel)) (Or.inl rfl) gf_12_22), List.forall_mem_cons.mpr ⟨
  (gs_iload_n dX12_takesE_14 rfl), List.forall_mem_cons.mpr ⟨
  (gs_aload_n dX12_takesE_15 rfl), List.forall_mem_cons.mpr ⟨
  (gs_gf (ref := "GriefCranesModel") dX12_takesE_16 (gx_mem 1023 (by decide +kernel) (by decide +kernel)) (Or.inl rfl) gf_12_26), List.forall_mem_cons.mpr ⟨
  (gs_iastore dX12_takesE_19), List.forall_mem_cons.mpr ⟨
  (gs_iconst dX12_takesE_20 rfl), List.forall_mem_cons.mpr ⟨
  (gs_istore_n dX12_takesE_21 rfl), List.forall_mem_cons.mpr ⟨
  (gs_aload_n dX12_takesE_22 rfl), List.forall_mem_cons.mpr ⟨
  (gs_cv dX12_takesE_23 (fun q hq => by
      simp only [List.mem_cons, List.not_mem_nil, or_false] at hq
      subst hq
      exact Or.inl ⟨_, rfl, by decide, by decide +kernel, by decide +kernel, List.forall_mem_cons.mpr ⟨gx_mem 1292 (by decide +kernel) (by decide +kernel), List.forall_mem_cons.mpr ⟨gx_mem 1294 (by decide +kernel) (by decide +kernel), List.forall_mem_cons.mpr ⟨gx_mem 28 (by decide +kernel) (by decide +kernel), List.forall_mem_cons.mpr ⟨gx_mem 96 (by decide +kernel) (by decide +kernel), List.forall_mem_cons.mpr ⟨cw_1295, fun _ h => absurd h List.not_mem_nil⟩⟩⟩⟩⟩⟩)), List.forall_mem_cons.mpr ⟨
  (gs_istore_n dX12_takesE_26 rfl), List.forall_mem_cons.mpr ⟨
  (gs_iload_n dX12_takesE_27 rfl), List.forall_mem_cons.mpr ⟨
  (gs_if_eq dX12_takesE_28 rfl), List.forall_mem_cons.mpr ⟨
  (gs_iload_n dX12_takesE_31 rfl), List.forall_mem_cons.mpr ⟨
  (gs_bipush dX12_takesE_32 rfl), List.forall_mem_cons.mpr ⟨
  (gs_icmp_eq dX12_takesE_34 rfl), List.forall_mem_cons.mpr ⟨
  (gs_iload_n dX12_takesE_37 rfl), List.forall_mem_cons.mpr ⟨
  (gs_bipush dX12_takesE_38 rfl), List.forall_mem_cons.mpr ⟨
  (gs_icmp_ne dX12_takesE_40 rfl), List.forall_mem_cons.mpr ⟨
  (gs_aload_n dX12_takesE_43 rfl), List.forall_mem_cons.mpr ⟨
  (gs_gf (ref := "GriefCranesModel") dX12_takesE_44 (gx_mem 1025 (by decide +kernel) (by decide +kernel)) (Or.inl rfl) gf_12_28), List.forall_mem_cons.mpr ⟨
  (gs_iconst dX12_takesE_47 rfl), List.forall_mem_cons.mpr ⟨
  (gs_icmp_ne dX12_takesE_48 rfl), List.forall_mem_cons.mpr ⟨
  (gs_iconst dX12_takesE_51 rfl), List.forall_mem_cons.mpr ⟨
  (gs_rn dX12_takesE_52 (by decide)), List.forall_mem_cons.mpr ⟨
  (gs_aload_n dX12_takesE_53 rfl), fun _ h => absurd h List.not_mem_nil⟩⟩⟩⟩⟩⟩⟩⟩⟩⟩⟩⟩⟩⟩⟩⟩⟩⟩⟩⟩⟩⟩⟩⟩⟩⟩⟩⟩⟩⟩⟩⟩
set_option maxRecDepth 20000 in
theorem kt_X12_takesE_1 (g : gx_T) : ∀ q ∈ k_X12_takesE_1, gx_E g gc_md RX12 cX12_takesE 4 (some .boolean) "takesE" q.1 q.2 := List.forall_mem_cons.mpr ⟨(gs_dup dX12_takesE_54), List.forall_mem_cons.mpr ⟨
  (gs_gf (ref := "GriefCranesModel") dX12_takesE_55 (gx_mem 1025 (by decide +kernel) (by decide +kernel)) (Or.inl rfl) gf_12_28), List.forall_mem_cons.mpr ⟨
  (gs_iconst dX12_takesE_58 rfl), List.forall_mem_cons.mpr ⟨
  (gs_iadd dX12_takesE_59), List.forall_mem_cons.mpr ⟨
  (gs_pf (ref := "GriefCranesModel") dX12_takesE_60 (gx_mem 1025 (by decide +kernel) (by decide +kernel)) (Or.inl rfl) gf_12_28 (by decide +kernel)), List.forall_mem_cons.mpr ⟨
  (gs_aload_n dX12_takesE_63 rfl), List.forall_mem_cons.mpr ⟨
  (gs_gf (ref := "GriefCranesModel") dX12_takesE_64 (gx_mem 1022 (by decide +kernel) (by decide +kernel)) (Or.inl rfl) gf_12_25), List.forall_mem_cons.mpr ⟨
  (gs_aload_n dX12_takesE_67 rfl), List.forall_mem_cons.mpr ⟨
  (gs_gf (ref := "GriefCranesModel") dX12_takesE_68 (gx_mem 1024 (by decide +kernel) (by decide +kernel)) (Or.inl rfl) gf_12_27), List.forall_mem_cons.mpr ⟨
  (gs_iload_n dX12_takesE_71 rfl), List.forall_mem_cons.mpr ⟨
  (gs_iastore dX12_takesE_72), List.forall_mem_cons.mpr ⟨
  (gs_aload_n dX12_takesE_73 rfl), List.forall_mem_cons.mpr ⟨
  (gs_dup dX12_takesE_74), List.forall_mem_cons.mpr ⟨
  (gs_gf (ref := "GriefCranesModel") dX12_takesE_75 (gx_mem 1024 (by decide +kernel) (by decide +kernel)) (Or.inl rfl) gf_12_27), List.forall_mem_cons.mpr ⟨
  (gs_iconst dX12_takesE_78 rfl), List.forall_mem_cons.mpr ⟨
  (gs_iadd dX12_takesE_79), List.forall_mem_cons.mpr ⟨
  (gs_pf (ref := "GriefCranesModel") dX12_takesE_80 (gx_mem 1024 (by decide +kernel) (by decide +kernel)) (Or.inl rfl) gf_12_27 (by decide +kernel)), List.forall_mem_cons.mpr ⟨
  (gs_aload_n dX12_takesE_83 rfl), List.forall_mem_cons.mpr ⟨
  (gs_dup dX12_takesE_84), List.forall_mem_cons.mpr ⟨
  (gs_gf (ref := "GriefCranesModel") dX12_takesE_85 (gx_mem 1013 (by decide +kernel) (by decide +kernel)) (Or.inl rfl) gf_12_16), List.forall_mem_cons.mpr ⟨
  (gs_iconst dX12_takesE_88 rfl), List.forall_mem_cons.mpr ⟨
  (gs_iadd dX12_takesE_89), List.forall_mem_cons.mpr ⟨
  (gs_pf (ref := "GriefCranesModel") dX12_takesE_90 (gx_mem 1013 (by decide +kernel) (by decide +kernel)) (Or.inl rfl) gf_12_16 (by decide +kernel)), List.forall_mem_cons.mpr ⟨
  (gs_goto dX12_takesE_93 rfl), List.forall_mem_cons.mpr ⟨
  (gs_aload_n dX12_takesE_96 rfl), List.forall_mem_cons.mpr ⟨
  (gs_cv dX12_takesE_97 (fun q hq => by
      simp only [List.mem_cons, List.not_mem_nil, or_false] at hq
      subst hq
      exact Or.inl ⟨_, rfl, by decide, by decide +kernel, by decide +kernel, List.forall_mem_cons.mpr ⟨gx_mem 1316 (by decide +kernel) (by decide +kernel), List.forall_mem_cons.mpr ⟨gx_mem 1318 (by decide +kernel) (by decide +kernel), List.forall_mem_cons.mpr ⟨gx_mem 34 (by decide +kernel) (by decide +kernel), List.forall_mem_cons.mpr ⟨gx_mem 96 (by decide +kernel) (by decide +kernel), List.forall_mem_cons.mpr ⟨cw_1319, fun _ h => absurd h List.not_mem_nil⟩⟩⟩⟩⟩⟩)), List.forall_mem_cons.mpr ⟨
  (gs_if_eq dX12_takesE_100 rfl), List.forall_mem_cons.mpr ⟨
  (gs_iconst dX12_takesE_103 rfl), List.forall_mem_cons.mpr ⟨
  (gs_istore_n dX12_takesE_104 rfl), List.forall_mem_cons.mpr ⟨
  (gs_goto dX12_takesE_105 rfl), List.forall_mem_cons.mpr ⟨
  (gs_iconst dX12_takesE_108 rfl), List.forall_mem_cons.mpr ⟨
  (gs_rn dX12_takesE_109 (by decide)), fun _ h => absurd h List.not_mem_nil⟩⟩⟩⟩⟩⟩⟩⟩⟩⟩⟩⟩⟩⟩⟩⟩⟩⟩⟩⟩⟩⟩⟩⟩⟩⟩⟩⟩⟩⟩⟩⟩
set_option maxRecDepth 20000 in
theorem kt_X12_takesE_2 (g : gx_T) : ∀ q ∈ k_X12_takesE_2, gx_E g gc_md RX12 cX12_takesE 4 (some .boolean) "takesE" q.1 q.2 := List.forall_mem_cons.mpr ⟨(gs_iload_n dX12_takesE_110 rfl), List.forall_mem_cons.mpr ⟨
  (gs_bipush dX12_takesE_111 rfl), List.forall_mem_cons.mpr ⟨
  (gs_icmp_eq dX12_takesE_113 rfl), List.forall_mem_cons.mpr ⟨
  (gs_iload_n dX12_takesE_116 rfl), List.forall_mem_cons.mpr ⟨
  (gs_bipush dX12_takesE_117 rfl), List.forall_mem_cons.mpr ⟨
  (gs_icmp_ne dX12_takesE_119 rfl), List.forall_mem_cons.mpr ⟨
  (gs_aload_n dX12_takesE_122 rfl), List.forall_mem_cons.mpr ⟨
  (gs_iload_n dX12_takesE_123 rfl), List.forall_mem_cons.mpr ⟨
  (gs_cv dX12_takesE_124 (fun q hq => by
      simp only [List.mem_cons, List.not_mem_nil, or_false] at hq
      subst hq
      exact Or.inl ⟨_, rfl, by decide, by decide +kernel, by decide +kernel, List.forall_mem_cons.mpr ⟨gx_mem 1332 (by decide +kernel) (by decide +kernel), List.forall_mem_cons.mpr ⟨gx_mem 1334 (by decide +kernel) (by decide +kernel), List.forall_mem_cons.mpr ⟨gx_mem 38 (by decide +kernel) (by decide +kernel), List.forall_mem_cons.mpr ⟨gx_mem 96 (by decide +kernel) (by decide +kernel), List.forall_mem_cons.mpr ⟨cw_1335, fun _ h => absurd h List.not_mem_nil⟩⟩⟩⟩⟩⟩)), List.forall_mem_cons.mpr ⟨
  (gs_aload_n dX12_takesE_127 rfl), List.forall_mem_cons.mpr ⟨
  (gs_gf (ref := "GriefCranesModel") dX12_takesE_128 (gx_mem 1022 (by decide +kernel) (by decide +kernel)) (Or.inl rfl) gf_12_25), List.forall_mem_cons.mpr ⟨
  (gs_aload_n dX12_takesE_131 rfl), List.forall_mem_cons.mpr ⟨
  (gs_gf (ref := "GriefCranesModel") dX12_takesE_132 (gx_mem 1024 (by decide +kernel) (by decide +kernel)) (Or.inl rfl) gf_12_27), List.forall_mem_cons.mpr ⟨
  (gs_iload_n dX12_takesE_135 rfl), List.forall_mem_cons.mpr ⟨
  (gs_iastore dX12_takesE_136), List.forall_mem_cons.mpr ⟨
  (gs_aload_n dX12_takesE_137 rfl), List.forall_mem_cons.mpr ⟨
  (gs_dup dX12_takesE_138), List.forall_mem_cons.mpr ⟨
  (gs_gf (ref := "GriefCranesModel") dX12_takesE_139 (gx_mem 1024 (by decide +kernel) (by decide +kernel)) (Or.inl rfl) gf_12_27), List.forall_mem_cons.mpr ⟨
  (gs_iconst dX12_takesE_142 rfl), List.forall_mem_cons.mpr ⟨
  (gs_iadd dX12_takesE_143), List.forall_mem_cons.mpr ⟨
  (gs_pf (ref := "GriefCranesModel") dX12_takesE_144 (gx_mem 1024 (by decide +kernel) (by decide +kernel)) (Or.inl rfl) gf_12_27 (by decide +kernel)), List.forall_mem_cons.mpr ⟨
  (gs_iconst dX12_takesE_147 rfl), List.forall_mem_cons.mpr ⟨
  (gs_istore_n dX12_takesE_148 rfl), List.forall_mem_cons.mpr ⟨
  (gs_aload_n dX12_takesE_149 rfl), List.forall_mem_cons.mpr ⟨
  (gs_dup dX12_takesE_150), List.forall_mem_cons.mpr ⟨
  (gs_gf (ref := "GriefCranesModel") dX12_takesE_151 (gx_mem 1013 (by decide +kernel) (by decide +kernel)) (Or.inl rfl) gf_12_16), List.forall_mem_cons.mpr ⟨
  (gs_iconst dX12_takesE_154 rfl), List.forall_mem_cons.mpr ⟨
  (gs_iadd dX12_takesE_155), List.forall_mem_cons.mpr ⟨
  (gs_pf (ref := "GriefCranesModel") dX12_takesE_156 (gx_mem 1013 (by decide +kernel) (by decide +kernel)) (Or.inl rfl) gf_12_16 (by decide +kernel)), List.forall_mem_cons.mpr ⟨
  (gs_goto dX12_takesE_159 rfl), List.forall_mem_cons.mpr ⟨
  (gs_aload_n dX12_takesE_162 rfl), List.forall_mem_cons.mpr ⟨
  (gs_bipush dX12_takesE_163 rfl), fun _ h => absurd h List.not_mem_nil⟩⟩⟩⟩⟩⟩⟩⟩⟩⟩⟩⟩⟩⟩⟩⟩⟩⟩⟩⟩⟩⟩⟩⟩⟩⟩⟩⟩⟩⟩⟩⟩
set_option maxRecDepth 20000 in
theorem kt_X12_takesE_3 (g : gx_T) : ∀ q ∈ k_X12_takesE_3, gx_E g gc_md RX12 cX12_takesE 4 (some .boolean) "takesE" q.1 q.2 := List.forall_mem_cons.mpr ⟨(gs_cv dX12_takesE_165 (fun q hq => by
      simp only [List.mem_cons, List.not_mem_nil, or_false] at hq
      subst hq
      exact Or.inl ⟨_, rfl, by decide, by decide +kernel, by decide +kernel, List.forall_mem_cons.mpr ⟨gx_mem 1332 (by decide +kernel) (by decide +kernel), List.forall_mem_cons.mpr ⟨gx_mem 1334 (by decide +kernel) (by decide +kernel), List.forall_mem_cons.mpr ⟨gx_mem 38 (by decide +kernel) (by decide +kernel), List.forall_mem_cons.mpr ⟨gx_mem 96 (by decide +kernel) (by decide +kernel), List.forall_mem_cons.mpr ⟨cw_1335, fun _ h => absurd h List.not_mem_nil⟩⟩⟩⟩⟩⟩)), List.forall_mem_cons.mpr ⟨
  (gs_aload_n dX12_takesE_168 rfl), List.forall_mem_cons.mpr ⟨
  (gs_gf (ref := "GriefCranesModel") dX12_takesE_169 (gx_mem 1020 (by decide +kernel) (by decide +kernel)) (Or.inl rfl) gf_12_23), List.forall_mem_cons.mpr ⟨
  (gs_iload_n dX12_takesE_172 rfl), List.forall_mem_cons.mpr ⟨
  (gs_aload_n dX12_takesE_173 rfl), List.forall_mem_cons.mpr ⟨
  (gs_gf (ref := "GriefCranesModel") dX12_takesE_174 (gx_mem 1023 (by decide +kernel) (by decide +kernel)) (Or.inl rfl) gf_12_26), List.forall_mem_cons.mpr ⟨
  (gs_iastore dX12_takesE_177), List.forall_mem_cons.mpr ⟨
  (gs_aload_n dX12_takesE_178 rfl), List.forall_mem_cons.mpr ⟨
  (gs_gf (ref := "GriefCranesModel") dX12_takesE_179 (gx_mem 1024 (by decide +kernel) (by decide +kernel)) (Or.inl rfl) gf_12_27), List.forall_mem_cons.mpr ⟨
  (gs_if_ne dX12_takesE_182 rfl), List.forall_mem_cons.mpr ⟨
  (gs_iconst dX12_takesE_185 rfl), List.forall_mem_cons.mpr ⟨
  (gs_rn dX12_takesE_186 (by decide)), List.forall_mem_cons.mpr ⟨
  (gs_iload_n dX12_takesE_187 rfl), List.forall_mem_cons.mpr ⟨
  (gs_bipush dX12_takesE_188 rfl), List.forall_mem_cons.mpr ⟨
  (gs_icmp_eq dX12_takesE_190 rfl), List.forall_mem_cons.mpr ⟨
  (gs_iconst dX12_takesE_193 rfl), List.forall_mem_cons.mpr ⟨
  (gs_rn dX12_takesE_194 (by decide)), List.forall_mem_cons.mpr ⟨
  (gs_aload_n dX12_takesE_195 rfl), List.forall_mem_cons.mpr ⟨
  (gs_dup dX12_takesE_196), List.forall_mem_cons.mpr ⟨
  (gs_gf (ref := "GriefCranesModel") dX12_takesE_197 (gx_mem 1024 (by decide +kernel) (by decide +kernel)) (Or.inl rfl) gf_12_27), List.forall_mem_cons.mpr ⟨
  (gs_iconst dX12_takesE_200 rfl), List.forall_mem_cons.mpr ⟨
  (gs_isub dX12_takesE_201), List.forall_mem_cons.mpr ⟨
  (gs_pf (ref := "GriefCranesModel") dX12_takesE_202 (gx_mem 1024 (by decide +kernel) (by decide +kernel)) (Or.inl rfl) gf_12_27 (by decide +kernel)), List.forall_mem_cons.mpr ⟨
  (gs_aload_n dX12_takesE_205 rfl), List.forall_mem_cons.mpr ⟨
  (gs_dup dX12_takesE_206), List.forall_mem_cons.mpr ⟨
  (gs_gf (ref := "GriefCranesModel") dX12_takesE_207 (gx_mem 1025 (by decide +kernel) (by decide +kernel)) (Or.inl rfl) gf_12_28), List.forall_mem_cons.mpr ⟨
  (gs_iconst dX12_takesE_210 rfl), List.forall_mem_cons.mpr ⟨
  (gs_isub dX12_takesE_211), List.forall_mem_cons.mpr ⟨
  (gs_pf (ref := "GriefCranesModel") dX12_takesE_212 (gx_mem 1025 (by decide +kernel) (by decide +kernel)) (Or.inl rfl) gf_12_28 (by decide +kernel)), List.forall_mem_cons.mpr ⟨
  (gs_aload_n dX12_takesE_215 rfl), List.forall_mem_cons.mpr ⟨
  (gs_dup dX12_takesE_216), List.forall_mem_cons.mpr ⟨
  (gs_gf (ref := "GriefCranesModel") dX12_takesE_217 (gx_mem 1013 (by decide +kernel) (by decide +kernel)) (Or.inl rfl) gf_12_16), fun _ h => absurd h List.not_mem_nil⟩⟩⟩⟩⟩⟩⟩⟩⟩⟩⟩⟩⟩⟩⟩⟩⟩⟩⟩⟩⟩⟩⟩⟩⟩⟩⟩⟩⟩⟩⟩⟩
set_option maxRecDepth 20000 in
theorem kt_X12_takesE_4 (g : gx_T) : ∀ q ∈ k_X12_takesE_4, gx_E g gc_md RX12 cX12_takesE 4 (some .boolean) "takesE" q.1 q.2 := List.forall_mem_cons.mpr ⟨(gs_iconst dX12_takesE_220 rfl), List.forall_mem_cons.mpr ⟨
  (gs_iadd dX12_takesE_221), List.forall_mem_cons.mpr ⟨
  (gs_pf (ref := "GriefCranesModel") dX12_takesE_222 (gx_mem 1013 (by decide +kernel) (by decide +kernel)) (Or.inl rfl) gf_12_16 (by decide +kernel)), List.forall_mem_cons.mpr ⟨
  (gs_aload_n dX12_takesE_225 rfl), List.forall_mem_cons.mpr ⟨
  (gs_cv dX12_takesE_226 (fun q hq => by
      simp only [List.mem_cons, List.not_mem_nil, or_false] at hq
      subst hq
      exact Or.inl ⟨_, rfl, by decide, by decide +kernel, by decide +kernel, List.forall_mem_cons.mpr ⟨gx_mem 1328 (by decide +kernel) (by decide +kernel), List.forall_mem_cons.mpr ⟨gx_mem 1330 (by decide +kernel) (by decide +kernel), List.forall_mem_cons.mpr ⟨gx_mem 37 (by decide +kernel) (by decide +kernel), List.forall_mem_cons.mpr ⟨gx_mem 96 (by decide +kernel) (by decide +kernel), List.forall_mem_cons.mpr ⟨cw_1331, fun _ h => absurd h List.not_mem_nil⟩⟩⟩⟩⟩⟩)), List.forall_mem_cons.mpr ⟨
  (gs_goto dX12_takesE_229 rfl), fun _ h => absurd h List.not_mem_nil⟩⟩⟩⟩⟩⟩
theorem kt_X12_takesE (g : gx_T) : ∀ q ∈ k_X12_takesE, gx_E g gc_md RX12 cX12_takesE 4 (some .boolean) "takesE" q.1 q.2 := List.forall_mem_append.mpr ⟨kt_X12_takesE_0 g, List.forall_mem_append.mpr ⟨kt_X12_takesE_1 g, List.forall_mem_append.mpr ⟨kt_X12_takesE_2 g, List.forall_mem_append.mpr ⟨kt_X12_takesE_3 g, kt_X12_takesE_4 g⟩⟩⟩⟩
set_option maxRecDepth 20000 in
theorem dX12_takesHead_0 : decode cX12_takesHead 0 = .ok (.aload_n 0, 1) := by decide +kernel
set_option maxRecDepth 20000 in
theorem dX12_takesHead_1 : decode cX12_takesHead 1 = .ok (.invokevirtual 269, 3) := by decide +kernel
set_option maxRecDepth 20000 in
theorem dX12_takesHead_4 : decode cX12_takesHead 4 = .ok (.lookupswitch 81 #[(98, 66), (115, 36), (119, 51)], 36) := by decide +kernel
set_option maxRecDepth 20000 in
theorem dX12_takesHead_40 : decode cX12_takesHead 40 = .ok (.aload_n 0, 1) := by decide +kernel
set_option maxRecDepth 20000 in
theorem dX12_takesHead_41 : decode cX12_takesHead 41 = .ok (.getfield 71, 3) := by decide +kernel
set_option maxRecDepth 20000 in
theorem dX12_takesHead_44 : decode cX12_takesHead 44 = .ok (.iload_n 1, 1) := by decide +kernel
set_option maxRecDepth 20000 in
theorem dX12_takesHead_45 : decode cX12_takesHead 45 = .ok (.iconst 0, 1) := by decide +kernel
set_option maxRecDepth 20000 in
theorem dX12_takesHead_46 : decode cX12_takesHead 46 = .ok (.iastore, 1) := by decide +kernel
set_option maxRecDepth 20000 in
theorem dX12_takesHead_47 : decode cX12_takesHead 47 = .ok (.aload_n 0, 1) := by decide +kernel
set_option maxRecDepth 20000 in
theorem dX12_takesHead_48 : decode cX12_takesHead 48 = .ok (.iconst 0, 1) := by decide +kernel
set_option maxRecDepth 20000 in
theorem dX12_takesHead_49 : decode cX12_takesHead 49 = .ok (.bipush 6, 2) := by decide +kernel
set_option maxRecDepth 20000 in
theorem dX12_takesHead_51 : decode cX12_takesHead 51 = .ok (.invokevirtual 300, 3) := by decide +kernel
set_option maxRecDepth 20000 in
theorem dX12_takesHead_54 : decode cX12_takesHead 54 = .ok (.ireturn, 1) := by decide +kernel
set_option maxRecDepth 20000 in
theorem dX12_takesHead_55 : decode cX12_takesHead 55 = .ok (.aload_n 0, 1) := by decide +kernel
set_option maxRecDepth 20000 in
theorem dX12_takesHead_56 : decode cX12_takesHead 56 = .ok (.getfield 71, 3) := by decide +kernel
set_option maxRecDepth 20000 in
theorem dX12_takesHead_59 : decode cX12_takesHead 59 = .ok (.iload_n 1, 1) := by decide +kernel
set_option maxRecDepth 20000 in
theorem dX12_takesHead_60 : decode cX12_takesHead 60 = .ok (.iconst 1, 1) := by decide +kernel
set_option maxRecDepth 20000 in
theorem dX12_takesHead_61 : decode cX12_takesHead 61 = .ok (.iastore, 1) := by decide +kernel
set_option maxRecDepth 20000 in
theorem dX12_takesHead_62 : decode cX12_takesHead 62 = .ok (.aload_n 0, 1) := by decide +kernel
set_option maxRecDepth 20000 in
theorem dX12_takesHead_63 : decode cX12_takesHead 63 = .ok (.bipush 6, 2) := by decide +kernel
set_option maxRecDepth 20000 in
theorem dX12_takesHead_65 : decode cX12_takesHead 65 = .ok (.iconst 4, 1) := by decide +kernel
set_option maxRecDepth 20000 in
theorem dX12_takesHead_66 : decode cX12_takesHead 66 = .ok (.invokevirtual 300, 3) := by decide +kernel
set_option maxRecDepth 20000 in
theorem dX12_takesHead_69 : decode cX12_takesHead 69 = .ok (.ireturn, 1) := by decide +kernel
set_option maxRecDepth 20000 in
theorem dX12_takesHead_70 : decode cX12_takesHead 70 = .ok (.aload_n 0, 1) := by decide +kernel
set_option maxRecDepth 20000 in
theorem dX12_takesHead_71 : decode cX12_takesHead 71 = .ok (.getfield 71, 3) := by decide +kernel
set_option maxRecDepth 20000 in
theorem dX12_takesHead_74 : decode cX12_takesHead 74 = .ok (.iload_n 1, 1) := by decide +kernel
set_option maxRecDepth 20000 in
theorem dX12_takesHead_75 : decode cX12_takesHead 75 = .ok (.iconst 2, 1) := by decide +kernel
set_option maxRecDepth 20000 in
theorem dX12_takesHead_76 : decode cX12_takesHead 76 = .ok (.iastore, 1) := by decide +kernel
set_option maxRecDepth 20000 in
theorem dX12_takesHead_77 : decode cX12_takesHead 77 = .ok (.aload_n 0, 1) := by decide +kernel
set_option maxRecDepth 20000 in
theorem dX12_takesHead_78 : decode cX12_takesHead 78 = .ok (.bipush 10, 2) := by decide +kernel
set_option maxRecDepth 20000 in
theorem dX12_takesHead_80 : decode cX12_takesHead 80 = .ok (.iconst 4, 1) := by decide +kernel
set_option maxRecDepth 20000 in
theorem dX12_takesHead_81 : decode cX12_takesHead 81 = .ok (.invokevirtual 300, 3) := by decide +kernel
set_option maxRecDepth 20000 in
theorem dX12_takesHead_84 : decode cX12_takesHead 84 = .ok (.ireturn, 1) := by decide +kernel
set_option maxRecDepth 20000 in
theorem dX12_takesHead_85 : decode cX12_takesHead 85 = .ok (.aload_n 0, 1) := by decide +kernel
set_option maxRecDepth 20000 in
theorem dX12_takesHead_86 : decode cX12_takesHead 86 = .ok (.getfield 71, 3) := by decide +kernel
set_option maxRecDepth 20000 in
theorem dX12_takesHead_89 : decode cX12_takesHead 89 = .ok (.iload_n 1, 1) := by decide +kernel
set_option maxRecDepth 20000 in
theorem dX12_takesHead_90 : decode cX12_takesHead 90 = .ok (.iconst 3, 1) := by decide +kernel
set_option maxRecDepth 20000 in
theorem dX12_takesHead_91 : decode cX12_takesHead 91 = .ok (.iastore, 1) := by decide +kernel
set_option maxRecDepth 20000 in
theorem dX12_takesHead_92 : decode cX12_takesHead 92 = .ok (.aload_n 0, 1) := by decide +kernel
set_option maxRecDepth 20000 in
theorem dX12_takesHead_93 : decode cX12_takesHead 93 = .ok (.bipush 14, 2) := by decide +kernel
set_option maxRecDepth 20000 in
theorem dX12_takesHead_95 : decode cX12_takesHead 95 = .ok (.iconst 4, 1) := by decide +kernel
set_option maxRecDepth 20000 in
theorem dX12_takesHead_96 : decode cX12_takesHead 96 = .ok (.invokevirtual 300, 3) := by decide +kernel
set_option maxRecDepth 20000 in
theorem dX12_takesHead_99 : decode cX12_takesHead 99 = .ok (.ireturn, 1) := by decide +kernel
set_option maxRecDepth 20000 in
theorem kt_X12_takesHead_0 (g : gx_T) : ∀ q ∈ k_X12_takesHead_0, gx_E g gc_md RX12 cX12_takesHead 2 (some .boolean) "takesHead" q.1 q.2 := List.forall_mem_cons.mpr ⟨(gs_aload_n dX12_takesHead_0 rfl), List.forall_mem_cons.mpr ⟨
  (gs_cv dX12_takesHead_1 (fun q hq => by
      simp only [List.mem_cons, List.not_mem_nil, or_false] at hq
      subst hq
      exact Or.inl ⟨_, rfl, by decide, by decide +kernel, by decide +kernel, List.forall_mem_cons.mpr ⟨gx_mem 1292 (by decide +kernel) (by decide +kernel), List.forall_mem_cons.mpr ⟨gx_mem 1294 (by decide +kernel) (by decide +kernel), List.forall_mem_cons.mpr ⟨gx_mem 28 (by decide +kernel) (by decide +kernel), List.forall_mem_cons.mpr ⟨gx_mem 96 (by decide +kernel) (by decide +kernel), List.forall_mem_cons.mpr ⟨cw_1295, fun _ h => absurd h List.not_mem_nil⟩⟩⟩⟩⟩⟩)), List.forall_mem_cons.mpr ⟨
  (gs_lsw (ps := [(98, 66), (115, 36), (119, 51)]) dX12_takesHead_4 (by decide +kernel) (gx_lupok (by decide +kernel) (by decide +kernel))), List.forall_mem_cons.mpr ⟨
  (gs_aload_n dX12_takesHead_40 rfl), List.forall_mem_cons.mpr ⟨
  (gs_gf (ref := "GriefCranesModel") dX12_takesHead_41 (gx_mem 1017 (by decide +kernel) (by decide +kernel)) (Or.inl rfl) gf_12_20), List.forall_mem_cons.mpr ⟨
  (gs_iload_n dX12_takesHead_44 rfl), List.forall_mem_cons.mpr ⟨
  (gs_iconst dX12_takesHead_45 rfl), List.forall_mem_cons.mpr ⟨
  (gs_iastore dX12_takesHead_46), List.forall_mem_cons.mpr ⟨
  (gs_aload_n dX12_takesHead_47 rfl), List.forall_mem_cons.mpr ⟨
  (gs_iconst dX12_takesHead_48 rfl), List.forall_mem_cons.mpr ⟨
  (gs_bipush dX12_takesHead_49 rfl), List.forall_mem_cons.mpr ⟨
  (gs_cv dX12_takesHead_51 (fun q hq => by
      simp only [List.mem_cons, List.not_mem_nil, or_false] at hq
      subst hq
      exact Or.inl ⟨_, rfl, by decide, by decide +kernel, by decide +kernel, List.forall_mem_cons.mpr ⟨gx_mem 1296 (by decide +kernel) (by decide +kernel), List.forall_mem_cons.mpr ⟨gx_mem 1298 (by decide +kernel) (by decide +kernel), List.forall_mem_cons.mpr ⟨gx_mem 29 (by decide +kernel) (by decide +kernel), List.forall_mem_cons.mpr ⟨gx_mem 96 (by decide +kernel) (by decide +kernel), List.forall_mem_cons.mpr ⟨cw_1299, fun _ h => absurd h List.not_mem_nil⟩⟩⟩⟩⟩⟩)), List.forall_mem_cons.mpr ⟨
  (gs_rn dX12_takesHead_54 (by decide)), List.forall_mem_cons.mpr ⟨
  (gs_aload_n dX12_takesHead_55 rfl), List.forall_mem_cons.mpr ⟨
  (gs_gf (ref := "GriefCranesModel") dX12_takesHead_56 (gx_mem 1017 (by decide +kernel) (by decide +kernel)) (Or.inl rfl) gf_12_20), List.forall_mem_cons.mpr ⟨
  (gs_iload_n dX12_takesHead_59 rfl), List.forall_mem_cons.mpr ⟨
  (gs_iconst dX12_takesHead_60 rfl), List.forall_mem_cons.mpr ⟨
  (gs_iastore dX12_takesHead_61), List.forall_mem_cons.mpr ⟨
  (gs_aload_n dX12_takesHead_62 rfl), List.forall_mem_cons.mpr ⟨
  (gs_bipush dX12_takesHead_63 rfl), List.forall_mem_cons.mpr ⟨
  (gs_iconst dX12_takesHead_65 rfl), List.forall_mem_cons.mpr ⟨
  (gs_cv dX12_takesHead_66 (fun q hq => by
      simp only [List.mem_cons, List.not_mem_nil, or_false] at hq
      subst hq
      exact Or.inl ⟨_, rfl, by decide, by decide +kernel, by decide +kernel, List.forall_mem_cons.mpr ⟨gx_mem 1296 (by decide +kernel) (by decide +kernel), List.forall_mem_cons.mpr ⟨gx_mem 1298 (by decide +kernel) (by decide +kernel), List.forall_mem_cons.mpr ⟨gx_mem 29 (by decide +kernel) (by decide +kernel), List.forall_mem_cons.mpr ⟨gx_mem 96 (by decide +kernel) (by decide +kernel), List.forall_mem_cons.mpr ⟨cw_1299, fun _ h => absurd h List.not_mem_nil⟩⟩⟩⟩⟩⟩)), List.forall_mem_cons.mpr ⟨
  (gs_rn dX12_takesHead_69 (by decide)), List.forall_mem_cons.mpr ⟨
  (gs_aload_n dX12_takesHead_70 rfl), List.forall_mem_cons.mpr ⟨
  (gs_gf (ref := "GriefCranesModel") dX12_takesHead_71 (gx_mem 1017 (by decide +kernel) (by decide +kernel)) (Or.inl rfl) gf_12_20), List.forall_mem_cons.mpr ⟨
  (gs_iload_n dX12_takesHead_74 rfl), List.forall_mem_cons.mpr ⟨
  (gs_iconst dX12_takesHead_75 rfl), List.forall_mem_cons.mpr ⟨
  (gs_iastore dX12_takesHead_76), List.forall_mem_cons.mpr ⟨
  (gs_aload_n dX12_takesHead_77 rfl), List.forall_mem_cons.mpr ⟨
  (gs_bipush dX12_takesHead_78 rfl), List.forall_mem_cons.mpr ⟨
  (gs_iconst dX12_takesHead_80 rfl), List.forall_mem_cons.mpr ⟨
  (gs_cv dX12_takesHead_81 (fun q hq => by
      simp only [List.mem_cons, List.not_mem_nil, or_false] at hq
      subst hq
      exact Or.inl ⟨_, rfl, by decide, by decide +kernel, by decide +kernel, List.forall_mem_cons.mpr ⟨gx_mem 1296 (by decide +kernel) (by decide +kernel), List.forall_mem_cons.mpr ⟨gx_mem 1298 (by decide +kernel) (by decide +kernel), List.forall_mem_cons.mpr ⟨gx_mem 29 (by decide +kernel) (by decide +kernel), List.forall_mem_cons.mpr ⟨gx_mem 96 (by decide +kernel) (by decide +kernel), List.forall_mem_cons.mpr ⟨cw_1299, fun _ h => absurd h List.not_mem_nil⟩⟩⟩⟩⟩⟩)), fun _ h => absurd h List.not_mem_nil⟩⟩⟩⟩⟩⟩⟩⟩⟩⟩⟩⟩⟩⟩⟩⟩⟩⟩⟩⟩⟩⟩⟩⟩⟩⟩⟩⟩⟩⟩⟩⟩
set_option maxRecDepth 20000 in
theorem kt_X12_takesHead_1 (g : gx_T) : ∀ q ∈ k_X12_takesHead_1, gx_E g gc_md RX12 cX12_takesHead 2 (some .boolean) "takesHead" q.1 q.2 := List.forall_mem_cons.mpr ⟨(gs_rn dX12_takesHead_84 (by decide)), List.forall_mem_cons.mpr ⟨
  (gs_aload_n dX12_takesHead_85 rfl), List.forall_mem_cons.mpr ⟨
  (gs_gf (ref := "GriefCranesModel") dX12_takesHead_86 (gx_mem 1017 (by decide +kernel) (by decide +kernel)) (Or.inl rfl) gf_12_20), List.forall_mem_cons.mpr ⟨
  (gs_iload_n dX12_takesHead_89 rfl), List.forall_mem_cons.mpr ⟨
  (gs_iconst dX12_takesHead_90 rfl), List.forall_mem_cons.mpr ⟨
  (gs_iastore dX12_takesHead_91), List.forall_mem_cons.mpr ⟨
  (gs_aload_n dX12_takesHead_92 rfl), List.forall_mem_cons.mpr ⟨
  (gs_bipush dX12_takesHead_93 rfl), List.forall_mem_cons.mpr ⟨
  (gs_iconst dX12_takesHead_95 rfl), List.forall_mem_cons.mpr ⟨
  (gs_cv dX12_takesHead_96 (fun q hq => by
      simp only [List.mem_cons, List.not_mem_nil, or_false] at hq
      subst hq
      exact Or.inl ⟨_, rfl, by decide, by decide +kernel, by decide +kernel, List.forall_mem_cons.mpr ⟨gx_mem 1296 (by decide +kernel) (by decide +kernel), List.forall_mem_cons.mpr ⟨gx_mem 1298 (by decide +kernel) (by decide +kernel), List.forall_mem_cons.mpr ⟨gx_mem 29 (by decide +kernel) (by decide +kernel), List.forall_mem_cons.mpr ⟨gx_mem 96 (by decide +kernel) (by decide +kernel), List.forall_mem_cons.mpr ⟨cw_1299, fun _ h => absurd h List.not_mem_nil⟩⟩⟩⟩⟩⟩)), List.forall_mem_cons.mpr ⟨
  (gs_rn dX12_takesHead_99 (by decide)), fun _ h => absurd h List.not_mem_nil⟩⟩⟩⟩⟩⟩⟩⟩⟩⟩⟩
theorem kt_X12_takesHead (g : gx_T) : ∀ q ∈ k_X12_takesHead, gx_E g gc_md RX12 cX12_takesHead 2 (some .boolean) "takesHead" q.1 q.2 := List.forall_mem_append.mpr ⟨kt_X12_takesHead_0 g, kt_X12_takesHead_1 g⟩
set_option maxRecDepth 20000 in
theorem dX12_takesClause_0 : decode cX12_takesClause 0 = .ok (.aload_n 0, 1) := by decide +kernel
set_option maxRecDepth 20000 in
theorem dX12_takesClause_1 : decode cX12_takesClause 1 = .ok (.iload_n 1, 1) := by decide +kernel
set_option maxRecDepth 20000 in
theorem dX12_takesClause_2 : decode cX12_takesClause 2 = .ok (.invokevirtual 303, 3) := by decide +kernel
set_option maxRecDepth 20000 in
theorem dX12_takesClause_5 : decode cX12_takesClause 5 = .ok (.ifCond .eq 10, 3) := by decide +kernel
set_option maxRecDepth 20000 in
theorem dX12_takesClause_8 : decode cX12_takesClause 8 = .ok (.aload_n 0, 1) := by decide +kernel
set_option maxRecDepth 20000 in
theorem dX12_takesClause_9 : decode cX12_takesClause 9 = .ok (.invokevirtual 288, 3) := by decide +kernel
set_option maxRecDepth 20000 in
theorem dX12_takesClause_12 : decode cX12_takesClause 12 = .ok (.ifCond .ne 5, 3) := by decide +kernel
set_option maxRecDepth 20000 in
theorem dX12_takesClause_15 : decode cX12_takesClause 15 = .ok (.iconst 0, 1) := by decide +kernel
set_option maxRecDepth 20000 in
theorem dX12_takesClause_16 : decode cX12_takesClause 16 = .ok (.ireturn, 1) := by decide +kernel
set_option maxRecDepth 20000 in
theorem dX12_takesClause_17 : decode cX12_takesClause 17 = .ok (.aload_n 0, 1) := by decide +kernel
set_option maxRecDepth 20000 in
theorem dX12_takesClause_18 : decode cX12_takesClause 18 = .ok (.getfield 74, 3) := by decide +kernel
set_option maxRecDepth 20000 in
theorem dX12_takesClause_21 : decode cX12_takesClause 21 = .ok (.iload_n 1, 1) := by decide +kernel
set_option maxRecDepth 20000 in
theorem dX12_takesClause_22 : decode cX12_takesClause 22 = .ok (.aload_n 0, 1) := by decide +kernel
set_option maxRecDepth 20000 in
theorem dX12_takesClause_23 : decode cX12_takesClause 23 = .ok (.getfield 62, 3) := by decide +kernel
set_option maxRecDepth 20000 in
theorem dX12_takesClause_26 : decode cX12_takesClause 26 = .ok (.iastore, 1) := by decide +kernel
set_option maxRecDepth 20000 in
theorem dX12_takesClause_27 : decode cX12_takesClause 27 = .ok (.aload_n 0, 1) := by decide +kernel
set_option maxRecDepth 20000 in
theorem dX12_takesClause_28 : decode cX12_takesClause 28 = .ok (.getfield 71, 3) := by decide +kernel
set_option maxRecDepth 20000 in
theorem dX12_takesClause_31 : decode cX12_takesClause 31 = .ok (.iload_n 1, 1) := by decide +kernel
set_option maxRecDepth 20000 in
theorem dX12_takesClause_32 : decode cX12_takesClause 32 = .ok (.iaload, 1) := by decide +kernel
set_option maxRecDepth 20000 in
theorem dX12_takesClause_33 : decode cX12_takesClause 33 = .ok (.iconst 2, 1) := by decide +kernel
set_option maxRecDepth 20000 in
theorem dX12_takesClause_34 : decode cX12_takesClause 34 = .ok (.if_icmp .ge 20, 3) := by decide +kernel
set_option maxRecDepth 20000 in
theorem dX12_takesClause_37 : decode cX12_takesClause 37 = .ok (.aload_n 0, 1) := by decide +kernel
set_option maxRecDepth 20000 in
theorem dX12_takesClause_38 : decode cX12_takesClause 38 = .ok (.bipush 32, 2) := by decide +kernel
set_option maxRecDepth 20000 in
theorem dX12_takesClause_40 : decode cX12_takesClause 40 = .ok (.invokevirtual 273, 3) := by decide +kernel
set_option maxRecDepth 20000 in
theorem dX12_takesClause_43 : decode cX12_takesClause 43 = .ok (.ifCond .eq 15, 3) := by decide +kernel
set_option maxRecDepth 20000 in
theorem dX12_takesClause_46 : decode cX12_takesClause 46 = .ok (.aload_n 0, 1) := by decide +kernel
set_option maxRecDepth 20000 in
theorem dX12_takesClause_47 : decode cX12_takesClause 47 = .ok (.iload_n 1, 1) := by decide +kernel
set_option maxRecDepth 20000 in
theorem dX12_takesClause_48 : decode cX12_takesClause 48 = .ok (.invokevirtual 306, 3) := by decide +kernel
set_option maxRecDepth 20000 in
theorem dX12_takesClause_51 : decode cX12_takesClause 51 = .ok (.ifCond .eq 7, 3) := by decide +kernel
set_option maxRecDepth 20000 in
theorem dX12_takesClause_54 : decode cX12_takesClause 54 = .ok (.iconst 1, 1) := by decide +kernel
set_option maxRecDepth 20000 in
theorem dX12_takesClause_55 : decode cX12_takesClause 55 = .ok (.goto 4, 3) := by decide +kernel
set_option maxRecDepth 20000 in
theorem dX12_takesClause_58 : decode cX12_takesClause 58 = .ok (.iconst 0, 1) := by decide +kernel
set_option maxRecDepth 20000 in
theorem dX12_takesClause_59 : decode cX12_takesClause 59 = .ok (.ireturn, 1) := by decide +kernel
set_option maxRecDepth 20000 in
theorem kt_X12_takesClause_0 (g : gx_T) : ∀ q ∈ k_X12_takesClause_0, gx_E g gc_md RX12 cX12_takesClause 2 (some .boolean) "takesClause" q.1 q.2 := List.forall_mem_cons.mpr ⟨(gs_aload_n dX12_takesClause_0 rfl), List.forall_mem_cons.mpr ⟨
  (gs_iload_n dX12_takesClause_1 rfl), List.forall_mem_cons.mpr ⟨
  (gs_cv dX12_takesClause_2 (fun q hq => by
      simp only [List.mem_cons, List.not_mem_nil, or_false] at hq
      subst hq
      exact Or.inl ⟨_, rfl, by decide, by decide +kernel, by decide +kernel, List.forall_mem_cons.mpr ⟨gx_mem 1288 (by decide +kernel) (by decide +kernel), List.forall_mem_cons.mpr ⟨gx_mem 1290 (by decide +kernel) (by decide +kernel), List.forall_mem_cons.mpr ⟨gx_mem 27 (by decide +kernel) (by decide +kernel), List.forall_mem_cons.mpr ⟨gx_mem 96 (by decide +kernel) (by decide +kernel), List.forall_mem_cons.mpr ⟨cw_1291, fun _ h => absurd h List.not_mem_nil⟩⟩⟩⟩⟩⟩)), List.forall_mem_cons.mpr ⟨
  (gs_if_eq dX12_takesClause_5 rfl), List.forall_mem_cons.mpr ⟨
  (gs_aload_n dX12_takesClause_8 rfl), List.forall_mem_cons.mpr ⟨
  (gs_cv dX12_takesClause_9 (fun q hq => by
      simp only [List.mem_cons, List.not_mem_nil, or_false] at hq
      subst hq
      exact Or.inl ⟨_, rfl, by decide, by decide +kernel, by decide +kernel, List.forall_mem_cons.mpr ⟨gx_mem 1304 (by decide +kernel) (by decide +kernel), List.forall_mem_cons.mpr ⟨gx_mem 1306 (by decide +kernel) (by decide +kernel), List.forall_mem_cons.mpr ⟨gx_mem 31 (by decide +kernel) (by decide +kernel), List.forall_mem_cons.mpr ⟨gx_mem 96 (by decide +kernel) (by decide +kernel), List.forall_mem_cons.mpr ⟨cw_1307, fun _ h => absurd h List.not_mem_nil⟩⟩⟩⟩⟩⟩)), List.forall_mem_cons.mpr ⟨
  (gs_if_ne dX12_takesClause_12 rfl), List.forall_mem_cons.mpr ⟨
  (gs_iconst dX12_takesClause_15 rfl), List.forall_mem_cons.mpr ⟨
  (gs_rn dX12_takesClause_16 (by decide)), List.forall_mem_cons.mpr ⟨
  (gs_aload_n dX12_takesClause_17 rfl), List.forall_mem_cons.mpr ⟨
  (gs_gf (ref := "GriefCranesModel") dX12_takesClause_18 (gx_mem 1018 (by decide +kernel) (by decide +kernel)) (Or.inl rfl) gf_12_21), List.forall_mem_cons.mpr ⟨
  (gs_iload_n dX12_takesClause_21 rfl), List.forall_mem_cons.mpr ⟨
  (gs_aload_n dX12_takesClause_22 rfl), List.forall_mem_cons.mpr ⟨
  (gs_gf (ref := "GriefCranesModel") dX12_takesClause_23 (gx_mem 1014 (by decide +kernel) (by decide +kernel)) (Or.inl rfl) gf_12_17), List.forall_mem_cons.mpr ⟨
  (gs_iastore dX12_takesClause_26), List.forall_mem_cons.mpr ⟨
  (gs_aload_n dX12_takesClause_27 rfl), List.forall_mem_cons.mpr ⟨
  (gs_gf (ref := "GriefCranesModel") dX12_takesClause_28 (gx_mem 1017 (by decide +kernel) (by decide +kernel)) (Or.inl rfl) gf_12_20), List.forall_mem_cons.mpr ⟨
  (gs_iload_n dX12_takesClause_31 rfl), List.forall_mem_cons.mpr ⟨
  (gs_iaload dX12_takesClause_32), List.forall_mem_cons.mpr ⟨
  (gs_iconst dX12_takesClause_33 rfl), List.forall_mem_cons.mpr ⟨
  (gs_icmp_ge dX12_takesClause_34 rfl), List.forall_mem_cons.mpr ⟨
  (gs_aload_n dX12_takesClause_37 rfl), List.forall_mem_cons.mpr ⟨
  (gs_bipush dX12_takesClause_38 rfl), List.forall_mem_cons.mpr ⟨
  (gs_cv dX12_takesClause_40 (fun q hq => by
      simp only [List.mem_cons, List.not_mem_nil, or_false] at hq
      subst hq
      exact Or.inl ⟨_, rfl, by decide, by decide +kernel, by decide +kernel, List.forall_mem_cons.mpr ⟨gx_mem 1300 (by decide +kernel) (by decide +kernel), List.forall_mem_cons.mpr ⟨gx_mem 1302 (by decide +kernel) (by decide +kernel), List.forall_mem_cons.mpr ⟨gx_mem 30 (by decide +kernel) (by decide +kernel), List.forall_mem_cons.mpr ⟨gx_mem 96 (by decide +kernel) (by decide +kernel), List.forall_mem_cons.mpr ⟨cw_1303, fun _ h => absurd h List.not_mem_nil⟩⟩⟩⟩⟩⟩)), List.forall_mem_cons.mpr ⟨
  (gs_if_eq dX12_takesClause_43 rfl), List.forall_mem_cons.mpr ⟨
  (gs_aload_n dX12_takesClause_46 rfl), List.forall_mem_cons.mpr ⟨
  (gs_iload_n dX12_takesClause_47 rfl), List.forall_mem_cons.mpr ⟨
  (gs_cv dX12_takesClause_48 (fun q hq => by
      simp only [List.mem_cons, List.not_mem_nil, or_false] at hq
      subst hq
      exact Or.inl ⟨_, rfl, by decide, by decide +kernel, by decide +kernel, List.forall_mem_cons.mpr ⟨gx_mem 1312 (by decide +kernel) (by decide +kernel), List.forall_mem_cons.mpr ⟨gx_mem 1314 (by decide +kernel) (by decide +kernel), List.forall_mem_cons.mpr ⟨gx_mem 33 (by decide +kernel) (by decide +kernel), List.forall_mem_cons.mpr ⟨gx_mem 96 (by decide +kernel) (by decide +kernel), List.forall_mem_cons.mpr ⟨cw_1315, fun _ h => absurd h List.not_mem_nil⟩⟩⟩⟩⟩⟩)), List.forall_mem_cons.mpr ⟨
  (gs_if_eq dX12_takesClause_51 rfl), List.forall_mem_cons.mpr ⟨
  (gs_iconst dX12_takesClause_54 rfl), List.forall_mem_cons.mpr ⟨
  (gs_goto dX12_takesClause_55 rfl), List.forall_mem_cons.mpr ⟨
  (gs_iconst dX12_takesClause_58 rfl), fun _ h => absurd h List.not_mem_nil⟩⟩⟩⟩⟩⟩⟩⟩⟩⟩⟩⟩⟩⟩⟩⟩⟩⟩⟩⟩⟩⟩⟩⟩⟩⟩⟩⟩⟩⟩⟩⟩
set_option maxRecDepth 20000 in
theorem kt_X12_takesClause_1 (g : gx_T) : ∀ q ∈ k_X12_takesClause_1, gx_E g gc_md RX12 cX12_takesClause 2 (some .boolean) "takesClause" q.1 q.2 := List.forall_mem_cons.mpr ⟨(gs_rn dX12_takesClause_59 (by decide)), fun _ h => absurd h List.not_mem_nil⟩
theorem kt_X12_takesClause (g : gx_T) : ∀ q ∈ k_X12_takesClause, gx_E g gc_md RX12 cX12_takesClause 2 (some .boolean) "takesClause" q.1 q.2 := List.forall_mem_append.mpr ⟨kt_X12_takesClause_0 g, kt_X12_takesClause_1 g⟩
set_option maxRecDepth 20000 in
theorem dX12_goesText_0 : decode cX12_goesText 0 = .ok (.aload_n 0, 1) := by decide +kernel
set_option maxRecDepth 20000 in
theorem dX12_goesText_1 : decode cX12_goesText 1 = .ok (.iconst 0, 1) := by decide +kernel
set_option maxRecDepth 20000 in
theorem dX12_goesText_2 : decode cX12_goesText 2 = .ok (.putfield 59, 3) := by decide +kernel
set_option maxRecDepth 20000 in
theorem dX12_goesText_5 : decode cX12_goesText 5 = .ok (.aload_n 0, 1) := by decide +kernel
set_option maxRecDepth 20000 in
theorem dX12_goesText_6 : decode cX12_goesText 6 = .ok (.bipush 100, 2) := by decide +kernel
set_option maxRecDepth 20000 in
theorem dX12_goesText_8 : decode cX12_goesText 8 = .ok (.iload_n 1, 1) := by decide +kernel
set_option maxRecDepth 20000 in
theorem dX12_goesText_9 : decode cX12_goesText 9 = .ok (.imul, 1) := by decide +kernel
set_option maxRecDepth 20000 in
theorem dX12_goesText_10 : decode cX12_goesText 10 = .ok (.putfield 89, 3) := by decide +kernel
set_option maxRecDepth 20000 in
theorem dX12_goesText_13 : decode cX12_goesText 13 = .ok (.iconst 0, 1) := by decide +kernel
set_option maxRecDepth 20000 in
theorem dX12_goesText_14 : decode cX12_goesText 14 = .ok (.istore_n 2, 1) := by decide +kernel
set_option maxRecDepth 20000 in
theorem dX12_goesText_15 : decode cX12_goesText 15 = .ok (.aload_n 0, 1) := by decide +kernel
set_option maxRecDepth 20000 in
theorem dX12_goesText_16 : decode cX12_goesText 16 = .ok (.bipush 10, 2) := by decide +kernel
set_option maxRecDepth 20000 in
theorem dX12_goesText_18 : decode cX12_goesText 18 = .ok (.iload_n 1, 1) := by decide +kernel
set_option maxRecDepth 20000 in
theorem dX12_goesText_19 : decode cX12_goesText 19 = .ok (.imul, 1) := by decide +kernel
set_option maxRecDepth 20000 in
theorem dX12_goesText_20 : decode cX12_goesText 20 = .ok (.iload_n 2, 1) := by decide +kernel
set_option maxRecDepth 20000 in
theorem dX12_goesText_21 : decode cX12_goesText 21 = .ok (.iadd, 1) := by decide +kernel
set_option maxRecDepth 20000 in
theorem dX12_goesText_22 : decode cX12_goesText 22 = .ok (.invokevirtual 309, 3) := by decide +kernel
set_option maxRecDepth 20000 in
theorem dX12_goesText_25 : decode cX12_goesText 25 = .ok (.ifCond .ne 5, 3) := by decide +kernel
set_option maxRecDepth 20000 in
theorem dX12_goesText_28 : decode cX12_goesText 28 = .ok (.iconst 0, 1) := by decide +kernel
set_option maxRecDepth 20000 in
theorem dX12_goesText_29 : decode cX12_goesText 29 = .ok (.ireturn, 1) := by decide +kernel
set_option maxRecDepth 20000 in
theorem dX12_goesText_30 : decode cX12_goesText 30 = .ok (.iinc 2 1, 3) := by decide +kernel
set_option maxRecDepth 20000 in
theorem dX12_goesText_33 : decode cX12_goesText 33 = .ok (.aload_n 0, 1) := by decide +kernel
set_option maxRecDepth 20000 in
theorem dX12_goesText_34 : decode cX12_goesText 34 = .ok (.getfield 68, 3) := by decide +kernel
set_option maxRecDepth 20000 in
theorem dX12_goesText_37 : decode cX12_goesText 37 = .ok (.iload_n 1, 1) := by decide +kernel
set_option maxRecDepth 20000 in
theorem dX12_goesText_38 : decode cX12_goesText 38 = .ok (.iload_n 2, 1) := by decide +kernel
set_option maxRecDepth 20000 in
theorem dX12_goesText_39 : decode cX12_goesText 39 = .ok (.iastore, 1) := by decide +kernel
set_option maxRecDepth 20000 in
theorem dX12_goesText_40 : decode cX12_goesText 40 = .ok (.aload_n 0, 1) := by decide +kernel
set_option maxRecDepth 20000 in
theorem dX12_goesText_41 : decode cX12_goesText 41 = .ok (.getfield 59, 3) := by decide +kernel
set_option maxRecDepth 20000 in
theorem dX12_goesText_44 : decode cX12_goesText 44 = .ok (.aload_n 0, 1) := by decide +kernel
set_option maxRecDepth 20000 in
theorem dX12_goesText_45 : decode cX12_goesText 45 = .ok (.getfield 56, 3) := by decide +kernel
set_option maxRecDepth 20000 in
theorem dX12_goesText_48 : decode cX12_goesText 48 = .ok (.if_icmp .ne 5, 3) := by decide +kernel
set_option maxRecDepth 20000 in
theorem dX12_goesText_51 : decode cX12_goesText 51 = .ok (.iconst 1, 1) := by decide +kernel
set_option maxRecDepth 20000 in
theorem dX12_goesText_52 : decode cX12_goesText 52 = .ok (.ireturn, 1) := by decide +kernel
set_option maxRecDepth 20000 in
theorem dX12_goesText_53 : decode cX12_goesText 53 = .ok (.iload_n 2, 1) := by decide +kernel
set_option maxRecDepth 20000 in
theorem dX12_goesText_54 : decode cX12_goesText 54 = .ok (.bipush 10, 2) := by decide +kernel
set_option maxRecDepth 20000 in
theorem dX12_goesText_56 : decode cX12_goesText 56 = .ok (.if_icmp .eq 12, 3) := by decide +kernel
set_option maxRecDepth 20000 in
theorem dX12_goesText_59 : decode cX12_goesText 59 = .ok (.aload_n 0, 1) := by decide +kernel
set_option maxRecDepth 20000 in
theorem dX12_goesText_60 : decode cX12_goesText 60 = .ok (.bipush 59, 2) := by decide +kernel
set_option maxRecDepth 20000 in
theorem dX12_goesText_62 : decode cX12_goesText 62 = .ok (.invokevirtual 273, 3) := by decide +kernel
set_option maxRecDepth 20000 in
theorem dX12_goesText_65 : decode cX12_goesText 65 = .ok (.ifCond .ne (-50), 3) := by decide +kernel
set_option maxRecDepth 20000 in
theorem dX12_goesText_68 : decode cX12_goesText 68 = .ok (.iconst 0, 1) := by decide +kernel
set_option maxRecDepth 20000 in
theorem dX12_goesText_69 : decode cX12_goesText 69 = .ok (.ireturn, 1) := by decide +kernel
set_option maxRecDepth 20000 in
theorem kt_X12_goesText_0 (g : gx_T) : ∀ q ∈ k_X12_goesText_0, gx_E g gc_md RX12 cX12_goesText 3 (some .boolean) "goesText" q.1 q.2 := List.forall_mem_cons.mpr ⟨(gs_aload_n dX12_goesText_0 rfl), List.forall_mem_cons.mpr ⟨
  (gs_iconst dX12_goesText_1 rfl), List.forall_mem_cons.mpr ⟨
  (gs_pf (ref := "GriefCranesModel") dX12_goesText_2 (gx_mem 1013 (by decide +kernel) (by decide +kernel)) (Or.inl rfl) gf_12_16 (by decide +kernel)), List.forall_mem_cons.mpr ⟨
  (gs_aload_n dX12_goesText_5 rfl), List.forall_mem_cons.mpr ⟨
  (gs_bipush dX12_goesText_6 rfl), List.forall_mem_cons.mpr ⟨
  (gs_iload_n dX12_goesText_8 rfl), List.forall_mem_cons.mpr ⟨
  (gs_imul dX12_goesText_9), List.forall_mem_cons.mpr ⟨
  (gs_pf (ref := "GriefCranesModel") dX12_goesText_10 (gx_mem 1023 (by decide +kernel) (by decide +kernel)) (Or.inl rfl) gf_12_26 (by decide +kernel)), List.forall_mem_cons.mpr ⟨
  (gs_iconst dX12_goesText_13 rfl), List.forall_mem_cons.mpr ⟨
  (gs_istore_n dX12_goesText_14 rfl), List.forall_mem_cons.mpr ⟨
  (gs_aload_n dX12_goesText_15 rfl), List.forall_mem_cons.mpr ⟨
  (gs_bipush dX12_goesText_16 rfl), List.forall_mem_cons.mpr ⟨
  (gs_iload_n dX12_goesText_18 rfl), List.forall_mem_cons.mpr ⟨
  (gs_imul dX12_goesText_19), List.forall_mem_cons.mpr ⟨
  (gs_iload_n dX12_goesText_20 rfl), List.forall_mem_cons.mpr ⟨
  (gs_iadd dX12_goesText_21), List.forall_mem_cons.mpr ⟨
  (gs_cv dX12_goesText_22 (fun q hq => by
      simp only [List.mem_cons, List.not_mem_nil, or_false] at hq
      subst hq
      exact Or.inl ⟨_, rfl, by decide, by decide +kernel, by decide +kernel, List.forall_mem_cons.mpr ⟨gx_mem 1284 (by decide +kernel) (by decide +kernel), List.forall_mem_cons.mpr ⟨gx_mem 1286 (by decide +kernel) (by decide +kernel), List.forall_mem_cons.mpr ⟨gx_mem 26 (by decide +kernel) (by decide +kernel), List.forall_mem_cons.mpr ⟨gx_mem 96 (by decide +kernel) (by decide +kernel), List.forall_mem_cons.mpr ⟨cw_1287, fun _ h => absurd h List.not_mem_nil⟩⟩⟩⟩⟩⟩)), List.forall_mem_cons.mpr ⟨
  (gs_if_ne dX12_goesText_25 rfl), List.forall_mem_cons.mpr ⟨
  (gs_iconst dX12_goesText_28 rfl), List.forall_mem_cons.mpr ⟨
  (gs_rn dX12_goesText_29 (by decide)), List.forall_mem_cons.mpr ⟨
  (gs_iinc dX12_goesText_30), List.forall_mem_cons.mpr ⟨
  (gs_aload_n dX12_goesText_33 rfl), List.forall_mem_cons.mpr ⟨
  (gs_gf (ref := "GriefCranesModel") dX12_goesText_34 (gx_mem 1016 (by decide +kernel) (by decide +kernel)) (Or.inl rfl) gf_12_19), List.forall_mem_cons.mpr ⟨
  (gs_iload_n dX12_goesText_37 rfl), List.forall_mem_cons.mpr ⟨
  (gs_iload_n dX12_goesText_38 rfl), List.forall_mem_cons.mpr ⟨
  (gs_iastore dX12_goesText_39), List.forall_mem_cons.mpr ⟨
  (gs_aload_n dX12_goesText_40 rfl), List.forall_mem_cons.mpr ⟨
  (gs_gf (ref := "GriefCranesModel") dX12_goesText_41 (gx_mem 1013 (by decide +kernel) (by decide +kernel)) (Or.inl rfl) gf_12_16), List.forall_mem_cons.mpr ⟨
  (gs_aload_n dX12_goesText_44 rfl), List.forall_mem_cons.mpr ⟨
  (gs_gf (ref := "GriefCranesModel") dX12_goesText_45 (gx_mem 1012 (by decide +kernel) (by decide +kernel)) (Or.inl rfl) gf_12_15), List.forall_mem_cons.mpr ⟨
  (gs_icmp_ne dX12_goesText_48 rfl), List.forall_mem_cons.mpr ⟨
  (gs_iconst dX12_goesText_51 rfl), fun _ h => absurd h List.not_mem_nil⟩⟩⟩⟩⟩⟩⟩⟩⟩⟩⟩⟩⟩⟩⟩⟩⟩⟩⟩⟩⟩⟩⟩⟩⟩⟩⟩⟩⟩⟩⟩⟩
set_option maxRecDepth 20000 in
theorem kt_X12_goesText_1 (g : gx_T) : ∀ q ∈ k_X12_goesText_1, gx_E g gc_md RX12 cX12_goesText 3 (some .boolean) "goesText" q.1 q.2 := List.forall_mem_cons.mpr ⟨(gs_rn dX12_goesText_52 (by decide)), List.forall_mem_cons.mpr ⟨
  (gs_iload_n dX12_goesText_53 rfl), List.forall_mem_cons.mpr ⟨
  (gs_bipush dX12_goesText_54 rfl), List.forall_mem_cons.mpr ⟨
  (gs_icmp_eq dX12_goesText_56 rfl), List.forall_mem_cons.mpr ⟨
  (gs_aload_n dX12_goesText_59 rfl), List.forall_mem_cons.mpr ⟨
  (gs_bipush dX12_goesText_60 rfl), List.forall_mem_cons.mpr ⟨
  (gs_cv dX12_goesText_62 (fun q hq => by
      simp only [List.mem_cons, List.not_mem_nil, or_false] at hq
      subst hq
      exact Or.inl ⟨_, rfl, by decide, by decide +kernel, by decide +kernel, List.forall_mem_cons.mpr ⟨gx_mem 1300 (by decide +kernel) (by decide +kernel), List.forall_mem_cons.mpr ⟨gx_mem 1302 (by decide +kernel) (by decide +kernel), List.forall_mem_cons.mpr ⟨gx_mem 30 (by decide +kernel) (by decide +kernel), List.forall_mem_cons.mpr ⟨gx_mem 96 (by decide +kernel) (by decide +kernel), List.forall_mem_cons.mpr ⟨cw_1303, fun _ h => absurd h List.not_mem_nil⟩⟩⟩⟩⟩⟩)), List.forall_mem_cons.mpr ⟨
  (gs_if_ne dX12_goesText_65 rfl), List.forall_mem_cons.mpr ⟨
  (gs_iconst dX12_goesText_68 rfl), List.forall_mem_cons.mpr ⟨
  (gs_rn dX12_goesText_69 (by decide)), fun _ h => absurd h List.not_mem_nil⟩⟩⟩⟩⟩⟩⟩⟩⟩⟩
theorem kt_X12_goesText (g : gx_T) : ∀ q ∈ k_X12_goesText, gx_E g gc_md RX12 cX12_goesText 3 (some .boolean) "goesText" q.1 q.2 := List.forall_mem_append.mpr ⟨kt_X12_goesText_0 g, kt_X12_goesText_1 g⟩
set_option maxRecDepth 20000 in
theorem dX12_firm_0 : decode cX12_firm 0 = .ok (.aload_n 0, 1) := by decide +kernel
set_option maxRecDepth 20000 in
theorem dX12_firm_1 : decode cX12_firm 1 = .ok (.getfield 50, 3) := by decide +kernel
set_option maxRecDepth 20000 in
theorem dX12_firm_4 : decode cX12_firm 4 = .ok (.bipush 6, 2) := by decide +kernel
set_option maxRecDepth 20000 in
theorem dX12_firm_6 : decode cX12_firm 6 = .ok (.if_icmp .ne 6, 3) := by decide +kernel
set_option maxRecDepth 20000 in
theorem dX12_firm_9 : decode cX12_firm 9 = .ok (.bipush (-4), 2) := by decide +kernel
set_option maxRecDepth 20000 in
theorem dX12_firm_11 : decode cX12_firm 11 = .ok (.ireturn, 1) := by decide +kernel
set_option maxRecDepth 20000 in
theorem dX12_firm_12 : decode cX12_firm 12 = .ok (.aload_n 0, 1) := by decide +kernel
set_option maxRecDepth 20000 in
theorem dX12_firm_13 : decode cX12_firm 13 = .ok (.aload_n 0, 1) := by decide +kernel
set_option maxRecDepth 20000 in
theorem dX12_firm_14 : decode cX12_firm 14 = .ok (.getfield 50, 3) := by decide +kernel
set_option maxRecDepth 20000 in
theorem dX12_firm_17 : decode cX12_firm 17 = .ok (.invokevirtual 312, 3) := by decide +kernel
set_option maxRecDepth 20000 in
theorem dX12_firm_20 : decode cX12_firm 20 = .ok (.istore_n 1, 1) := by decide +kernel
set_option maxRecDepth 20000 in
theorem dX12_firm_21 : decode cX12_firm 21 = .ok (.aload_n 0, 1) := by decide +kernel
set_option maxRecDepth 20000 in
theorem dX12_firm_22 : decode cX12_firm 22 = .ok (.iconst 0, 1) := by decide +kernel
set_option maxRecDepth 20000 in
theorem dX12_firm_23 : decode cX12_firm 23 = .ok (.putfield 56, 3) := by decide +kernel
set_option maxRecDepth 20000 in
theorem dX12_firm_26 : decode cX12_firm 26 = .ok (.iload_n 1, 1) := by decide +kernel
set_option maxRecDepth 20000 in
theorem dX12_firm_27 : decode cX12_firm 27 = .ok (.ifCond .ne 11, 3) := by decide +kernel
set_option maxRecDepth 20000 in
theorem dX12_firm_30 : decode cX12_firm 30 = .ok (.bipush (-10), 2) := by decide +kernel
set_option maxRecDepth 20000 in
theorem dX12_firm_32 : decode cX12_firm 32 = .ok (.aload_n 0, 1) := by decide +kernel
set_option maxRecDepth 20000 in
theorem dX12_firm_33 : decode cX12_firm 33 = .ok (.getfield 59, 3) := by decide +kernel
set_option maxRecDepth 20000 in
theorem dX12_firm_36 : decode cX12_firm 36 = .ok (.isub, 1) := by decide +kernel
set_option maxRecDepth 20000 in
theorem dX12_firm_37 : decode cX12_firm 37 = .ok (.ireturn, 1) := by decide +kernel
set_option maxRecDepth 20000 in
theorem dX12_firm_38 : decode cX12_firm 38 = .ok (.aload_n 0, 1) := by decide +kernel
set_option maxRecDepth 20000 in
theorem dX12_firm_39 : decode cX12_firm 39 = .ok (.aload_n 0, 1) := by decide +kernel
set_option maxRecDepth 20000 in
theorem dX12_firm_40 : decode cX12_firm 40 = .ok (.getfield 50, 3) := by decide +kernel
set_option maxRecDepth 20000 in
theorem dX12_firm_43 : decode cX12_firm 43 = .ok (.putfield 53, 3) := by decide +kernel
set_option maxRecDepth 20000 in
theorem dX12_firm_46 : decode cX12_firm 46 = .ok (.aload_n 0, 1) := by decide +kernel
set_option maxRecDepth 20000 in
theorem dX12_firm_47 : decode cX12_firm 47 = .ok (.dup, 1) := by decide +kernel
set_option maxRecDepth 20000 in
theorem dX12_firm_48 : decode cX12_firm 48 = .ok (.getfield 50, 3) := by decide +kernel
set_option maxRecDepth 20000 in
theorem dX12_firm_51 : decode cX12_firm 51 = .ok (.iconst 1, 1) := by decide +kernel
set_option maxRecDepth 20000 in
theorem dX12_firm_52 : decode cX12_firm 52 = .ok (.iadd, 1) := by decide +kernel
set_option maxRecDepth 20000 in
theorem dX12_firm_53 : decode cX12_firm 53 = .ok (.putfield 50, 3) := by decide +kernel
set_option maxRecDepth 20000 in
theorem dX12_firm_56 : decode cX12_firm 56 = .ok (.aload_n 0, 1) := by decide +kernel
set_option maxRecDepth 20000 in
theorem dX12_firm_57 : decode cX12_firm 57 = .ok (.getfield 53, 3) := by decide +kernel
set_option maxRecDepth 20000 in
theorem dX12_firm_60 : decode cX12_firm 60 = .ok (.ireturn, 1) := by decide +kernel
set_option maxRecDepth 20000 in
theorem kt_X12_firm_0 (g : gx_T) : ∀ q ∈ k_X12_firm_0, gx_E g gc_md RX12 cX12_firm 2 (some .int) "firm" q.1 q.2 := List.forall_mem_cons.mpr ⟨(gs_aload_n dX12_firm_0 rfl), List.forall_mem_cons.mpr ⟨
  (gs_gf (ref := "GriefCranesModel") dX12_firm_1 (gx_mem 1010 (by decide +kernel) (by decide +kernel)) (Or.inl rfl) gf_12_13), List.forall_mem_cons.mpr ⟨
  (gs_bipush dX12_firm_4 rfl), List.forall_mem_cons.mpr ⟨
  (gs_icmp_ne dX12_firm_6 rfl), List.forall_mem_cons.mpr ⟨
  (gs_bipush dX12_firm_9 rfl), List.forall_mem_cons.mpr ⟨
  (gs_ri dX12_firm_11), List.forall_mem_cons.mpr ⟨
  (gs_aload_n dX12_firm_12 rfl), List.forall_mem_cons.mpr ⟨
  (gs_aload_n dX12_firm_13 rfl), List.forall_mem_cons.mpr ⟨
  (gs_gf (ref := "GriefCranesModel") dX12_firm_14 (gx_mem 1010 (by decide +kernel) (by decide +kernel)) (Or.inl rfl) gf_12_13), List.forall_mem_cons.mpr ⟨
  (gs_cv dX12_firm_17 (fun q hq => by
      simp only [List.mem_cons, List.not_mem_nil, or_false] at hq
      subst hq
      exact Or.inl ⟨_, rfl, by decide, by decide +kernel, by decide +kernel, List.forall_mem_cons.mpr ⟨gx_mem 1280 (by decide +kernel) (by decide +kernel), List.forall_mem_cons.mpr ⟨gx_mem 1282 (by decide +kernel) (by decide +kernel), List.forall_mem_cons.mpr ⟨gx_mem 25 (by decide +kernel) (by decide +kernel), List.forall_mem_cons.mpr ⟨gx_mem 96 (by decide +kernel) (by decide +kernel), List.forall_mem_cons.mpr ⟨cw_1283, fun _ h => absurd h List.not_mem_nil⟩⟩⟩⟩⟩⟩)), List.forall_mem_cons.mpr ⟨
  (gs_istore_n dX12_firm_20 rfl), List.forall_mem_cons.mpr ⟨
  (gs_aload_n dX12_firm_21 rfl), List.forall_mem_cons.mpr ⟨
  (gs_iconst dX12_firm_22 rfl), List.forall_mem_cons.mpr ⟨
  (gs_pf (ref := "GriefCranesModel") dX12_firm_23 (gx_mem 1012 (by decide +kernel) (by decide +kernel)) (Or.inl rfl) gf_12_15 (by decide +kernel)), List.forall_mem_cons.mpr ⟨
  (gs_iload_n dX12_firm_26 rfl), List.forall_mem_cons.mpr ⟨
  (gs_if_ne dX12_firm_27 rfl), List.forall_mem_cons.mpr ⟨
  (gs_bipush dX12_firm_30 rfl), List.forall_mem_cons.mpr ⟨
  (gs_aload_n dX12_firm_32 rfl), List.forall_mem_cons.mpr ⟨
  (gs_gf (ref := "GriefCranesModel") dX12_firm_33 (gx_mem 1013 (by decide +kernel) (by decide +kernel)) (Or.inl rfl) gf_12_16), List.forall_mem_cons.mpr ⟨
  (gs_isub dX12_firm_36), List.forall_mem_cons.mpr ⟨
  (gs_ri dX12_firm_37), List.forall_mem_cons.mpr ⟨
  (gs_aload_n dX12_firm_38 rfl), List.forall_mem_cons.mpr ⟨
  (gs_aload_n dX12_firm_39 rfl), List.forall_mem_cons.mpr ⟨
  (gs_gf (ref := "GriefCranesModel") dX12_firm_40 (gx_mem 1010 (by decide +kernel) (by decide +kernel)) (Or.inl rfl) gf_12_13), List.forall_mem_cons.mpr ⟨
  (gs_pf (ref := "GriefCranesModel") dX12_firm_43 (gx_mem 1011 (by decide +kernel) (by decide +kernel)) (Or.inl rfl) gf_12_14 (by decide +kernel)), List.forall_mem_cons.mpr ⟨
  (gs_aload_n dX12_firm_46 rfl), List.forall_mem_cons.mpr ⟨
  (gs_dup dX12_firm_47), List.forall_mem_cons.mpr ⟨
  (gs_gf (ref := "GriefCranesModel") dX12_firm_48 (gx_mem 1010 (by decide +kernel) (by decide +kernel)) (Or.inl rfl) gf_12_13), List.forall_mem_cons.mpr ⟨
  (gs_iconst dX12_firm_51 rfl), List.forall_mem_cons.mpr ⟨
  (gs_iadd dX12_firm_52), List.forall_mem_cons.mpr ⟨
  (gs_pf (ref := "GriefCranesModel") dX12_firm_53 (gx_mem 1010 (by decide +kernel) (by decide +kernel)) (Or.inl rfl) gf_12_13 (by decide +kernel)), List.forall_mem_cons.mpr ⟨
  (gs_aload_n dX12_firm_56 rfl), fun _ h => absurd h List.not_mem_nil⟩⟩⟩⟩⟩⟩⟩⟩⟩⟩⟩⟩⟩⟩⟩⟩⟩⟩⟩⟩⟩⟩⟩⟩⟩⟩⟩⟩⟩⟩⟩⟩
set_option maxRecDepth 20000 in
theorem kt_X12_firm_1 (g : gx_T) : ∀ q ∈ k_X12_firm_1, gx_E g gc_md RX12 cX12_firm 2 (some .int) "firm" q.1 q.2 := List.forall_mem_cons.mpr ⟨(gs_gf (ref := "GriefCranesModel") dX12_firm_57 (gx_mem 1011 (by decide +kernel) (by decide +kernel)) (Or.inl rfl) gf_12_14), List.forall_mem_cons.mpr ⟨
  (gs_ri dX12_firm_60), fun _ h => absurd h List.not_mem_nil⟩⟩
theorem kt_X12_firm (g : gx_T) : ∀ q ∈ k_X12_firm, gx_E g gc_md RX12 cX12_firm 2 (some .int) "firm" q.1 q.2 := List.forall_mem_append.mpr ⟨kt_X12_firm_0 g, kt_X12_firm_1 g⟩
set_option maxRecDepth 20000 in
theorem dX12_begin_0 : decode cX12_begin 0 = .ok (.aload_n 0, 1) := by decide +kernel
set_option maxRecDepth 20000 in
theorem dX12_begin_1 : decode cX12_begin 1 = .ok (.getfield 53, 3) := by decide +kernel
set_option maxRecDepth 20000 in
theorem dX12_begin_4 : decode cX12_begin 4 = .ok (.ifCond .ge 7, 3) := by decide +kernel
set_option maxRecDepth 20000 in
theorem dX12_begin_7 : decode cX12_begin 7 = .ok (.iconst 0, 1) := by decide +kernel
set_option maxRecDepth 20000 in
theorem dX12_begin_8 : decode cX12_begin 8 = .ok (.goto 10, 3) := by decide +kernel
set_option maxRecDepth 20000 in
theorem dX12_begin_11 : decode cX12_begin 11 = .ok (.bipush 10, 2) := by decide +kernel
set_option maxRecDepth 20000 in
theorem dX12_begin_13 : decode cX12_begin 13 = .ok (.aload_n 0, 1) := by decide +kernel
set_option maxRecDepth 20000 in
theorem dX12_begin_14 : decode cX12_begin 14 = .ok (.getfield 53, 3) := by decide +kernel
set_option maxRecDepth 20000 in
theorem dX12_begin_17 : decode cX12_begin 17 = .ok (.imul, 1) := by decide +kernel
set_option maxRecDepth 20000 in
theorem dX12_begin_18 : decode cX12_begin 18 = .ok (.ireturn, 1) := by decide +kernel
set_option maxRecDepth 20000 in
theorem kt_X12_begin_0 (g : gx_T) : ∀ q ∈ k_X12_begin_0, gx_E g gc_md RX12 cX12_begin 1 (some .int) "begin" q.1 q.2 := List.forall_mem_cons.mpr ⟨(gs_aload_n dX12_begin_0 rfl), List.forall_mem_cons.mpr ⟨
  (gs_gf (ref := "GriefCranesModel") dX12_begin_1 (gx_mem 1011 (by decide +kernel) (by decide +kernel)) (Or.inl rfl) gf_12_14), List.forall_mem_cons.mpr ⟨
  (gs_if_ge dX12_begin_4 rfl), List.forall_mem_cons.mpr ⟨
  (gs_iconst dX12_begin_7 rfl), List.forall_mem_cons.mpr ⟨
  (gs_goto dX12_begin_8 rfl), List.forall_mem_cons.mpr ⟨
  (gs_bipush dX12_begin_11 rfl), List.forall_mem_cons.mpr ⟨
  (gs_aload_n dX12_begin_13 rfl), List.forall_mem_cons.mpr ⟨
  (gs_gf (ref := "GriefCranesModel") dX12_begin_14 (gx_mem 1011 (by decide +kernel) (by decide +kernel)) (Or.inl rfl) gf_12_14), List.forall_mem_cons.mpr ⟨
  (gs_imul dX12_begin_17), List.forall_mem_cons.mpr ⟨
  (gs_ri dX12_begin_18), fun _ h => absurd h List.not_mem_nil⟩⟩⟩⟩⟩⟩⟩⟩⟩⟩
theorem kt_X12_begin (g : gx_T) : ∀ q ∈ k_X12_begin, gx_E g gc_md RX12 cX12_begin 1 (some .int) "begin" q.1 q.2 := kt_X12_begin_0 g
set_option maxRecDepth 20000 in
theorem dX12_behind_0 : decode cX12_behind 0 = .ok (.aload_n 0, 1) := by decide +kernel
set_option maxRecDepth 20000 in
theorem dX12_behind_1 : decode cX12_behind 1 = .ok (.getfield 53, 3) := by decide +kernel
set_option maxRecDepth 20000 in
theorem dX12_behind_4 : decode cX12_behind 4 = .ok (.ifCond .ge 7, 3) := by decide +kernel
set_option maxRecDepth 20000 in
theorem dX12_behind_7 : decode cX12_behind 7 = .ok (.iconst 0, 1) := by decide +kernel
set_option maxRecDepth 20000 in
theorem dX12_behind_8 : decode cX12_behind 8 = .ok (.goto 20, 3) := by decide +kernel
set_option maxRecDepth 20000 in
theorem dX12_behind_11 : decode cX12_behind 11 = .ok (.bipush 10, 2) := by decide +kernel
set_option maxRecDepth 20000 in
theorem dX12_behind_13 : decode cX12_behind 13 = .ok (.aload_n 0, 1) := by decide +kernel
set_option maxRecDepth 20000 in
theorem dX12_behind_14 : decode cX12_behind 14 = .ok (.getfield 53, 3) := by decide +kernel
set_option maxRecDepth 20000 in
theorem dX12_behind_17 : decode cX12_behind 17 = .ok (.imul, 1) := by decide +kernel
set_option maxRecDepth 20000 in
theorem dX12_behind_18 : decode cX12_behind 18 = .ok (.aload_n 0, 1) := by decide +kernel
set_option maxRecDepth 20000 in
theorem dX12_behind_19 : decode cX12_behind 19 = .ok (.getfield 68, 3) := by decide +kernel
set_option maxRecDepth 20000 in
theorem dX12_behind_22 : decode cX12_behind 22 = .ok (.aload_n 0, 1) := by decide +kernel
set_option maxRecDepth 20000 in
theorem dX12_behind_23 : decode cX12_behind 23 = .ok (.getfield 53, 3) := by decide +kernel
set_option maxRecDepth 20000 in
theorem dX12_behind_26 : decode cX12_behind 26 = .ok (.iaload, 1) := by decide +kernel
set_option maxRecDepth 20000 in
theorem dX12_behind_27 : decode cX12_behind 27 = .ok (.iadd, 1) := by decide +kernel
set_option maxRecDepth 20000 in
theorem dX12_behind_28 : decode cX12_behind 28 = .ok (.ireturn, 1) := by decide +kernel
set_option maxRecDepth 20000 in
theorem kt_X12_behind_0 (g : gx_T) : ∀ q ∈ k_X12_behind_0, gx_E g gc_md RX12 cX12_behind 1 (some .int) "behind" q.1 q.2 := List.forall_mem_cons.mpr ⟨(gs_aload_n dX12_behind_0 rfl), List.forall_mem_cons.mpr ⟨
  (gs_gf (ref := "GriefCranesModel") dX12_behind_1 (gx_mem 1011 (by decide +kernel) (by decide +kernel)) (Or.inl rfl) gf_12_14), List.forall_mem_cons.mpr ⟨
  (gs_if_ge dX12_behind_4 rfl), List.forall_mem_cons.mpr ⟨
  (gs_iconst dX12_behind_7 rfl), List.forall_mem_cons.mpr ⟨
  (gs_goto dX12_behind_8 rfl), List.forall_mem_cons.mpr ⟨
  (gs_bipush dX12_behind_11 rfl), List.forall_mem_cons.mpr ⟨
  (gs_aload_n dX12_behind_13 rfl), List.forall_mem_cons.mpr ⟨
  (gs_gf (ref := "GriefCranesModel") dX12_behind_14 (gx_mem 1011 (by decide +kernel) (by decide +kernel)) (Or.inl rfl) gf_12_14), List.forall_mem_cons.mpr ⟨
  (gs_imul dX12_behind_17), List.forall_mem_cons.mpr ⟨
  (gs_aload_n dX12_behind_18 rfl), List.forall_mem_cons.mpr ⟨
  (gs_gf (ref := "GriefCranesModel") dX12_behind_19 (gx_mem 1016 (by decide +kernel) (by decide +kernel)) (Or.inl rfl) gf_12_19), List.forall_mem_cons.mpr ⟨
  (gs_aload_n dX12_behind_22 rfl), List.forall_mem_cons.mpr ⟨
  (gs_gf (ref := "GriefCranesModel") dX12_behind_23 (gx_mem 1011 (by decide +kernel) (by decide +kernel)) (Or.inl rfl) gf_12_14), List.forall_mem_cons.mpr ⟨
  (gs_iaload dX12_behind_26), List.forall_mem_cons.mpr ⟨
  (gs_iadd dX12_behind_27), List.forall_mem_cons.mpr ⟨
  (gs_ri dX12_behind_28), fun _ h => absurd h List.not_mem_nil⟩⟩⟩⟩⟩⟩⟩⟩⟩⟩⟩⟩⟩⟩⟩⟩
theorem kt_X12_behind (g : gx_T) : ∀ q ∈ k_X12_behind, gx_E g gc_md RX12 cX12_behind 1 (some .int) "behind" q.1 q.2 := kt_X12_behind_0 g
set_option maxRecDepth 20000 in
theorem dX12_lastOf_0 : decode cX12_lastOf 0 = .ok (.iload_n 2, 1) := by decide +kernel
set_option maxRecDepth 20000 in
theorem dX12_lastOf_1 : decode cX12_lastOf 1 = .ok (.istore_n 3, 1) := by decide +kernel
set_option maxRecDepth 20000 in
theorem dX12_lastOf_2 : decode cX12_lastOf 2 = .ok (.aload_n 0, 1) := by decide +kernel
set_option maxRecDepth 20000 in
theorem dX12_lastOf_3 : decode cX12_lastOf 3 = .ok (.invokevirtual 315, 3) := by decide +kernel
set_option maxRecDepth 20000 in
theorem dX12_lastOf_6 : decode cX12_lastOf 6 = .ok (.istore 4, 2) := by decide +kernel
set_option maxRecDepth 20000 in
theorem dX12_lastOf_8 : decode cX12_lastOf 8 = .ok (.iload 4, 2) := by decide +kernel
set_option maxRecDepth 20000 in
theorem dX12_lastOf_10 : decode cX12_lastOf 10 = .ok (.aload_n 0, 1) := by decide +kernel
set_option maxRecDepth 20000 in
theorem dX12_lastOf_11 : decode cX12_lastOf 11 = .ok (.invokevirtual 318, 3) := by decide +kernel
set_option maxRecDepth 20000 in
theorem dX12_lastOf_14 : decode cX12_lastOf 14 = .ok (.if_icmp .ge 32, 3) := by decide +kernel
set_option maxRecDepth 20000 in
theorem dX12_lastOf_17 : decode cX12_lastOf 17 = .ok (.aload_n 0, 1) := by decide +kernel
set_option maxRecDepth 20000 in
theorem dX12_lastOf_18 : decode cX12_lastOf 18 = .ok (.getfield 71, 3) := by decide +kernel
set_option maxRecDepth 20000 in
theorem dX12_lastOf_21 : decode cX12_lastOf 21 = .ok (.iload 4, 2) := by decide +kernel
set_option maxRecDepth 20000 in
theorem dX12_lastOf_23 : decode cX12_lastOf 23 = .ok (.iaload, 1) := by decide +kernel
set_option maxRecDepth 20000 in
theorem dX12_lastOf_24 : decode cX12_lastOf 24 = .ok (.iload_n 1, 1) := by decide +kernel
set_option maxRecDepth 20000 in
theorem dX12_lastOf_25 : decode cX12_lastOf 25 = .ok (.if_icmp .ne 13, 3) := by decide +kernel
set_option maxRecDepth 20000 in
theorem dX12_lastOf_28 : decode cX12_lastOf 28 = .ok (.aload_n 0, 1) := by decide +kernel
set_option maxRecDepth 20000 in
theorem dX12_lastOf_29 : decode cX12_lastOf 29 = .ok (.getfield 74, 3) := by decide +kernel
set_option maxRecDepth 20000 in
theorem dX12_lastOf_32 : decode cX12_lastOf 32 = .ok (.iload 4, 2) := by decide +kernel
set_option maxRecDepth 20000 in
theorem dX12_lastOf_34 : decode cX12_lastOf 34 = .ok (.iaload, 1) := by decide +kernel
set_option maxRecDepth 20000 in
theorem dX12_lastOf_35 : decode cX12_lastOf 35 = .ok (.goto 4, 3) := by decide +kernel
set_option maxRecDepth 20000 in
theorem dX12_lastOf_38 : decode cX12_lastOf 38 = .ok (.iload_n 3, 1) := by decide +kernel
set_option maxRecDepth 20000 in
theorem dX12_lastOf_39 : decode cX12_lastOf 39 = .ok (.istore_n 3, 1) := by decide +kernel
set_option maxRecDepth 20000 in
theorem dX12_lastOf_40 : decode cX12_lastOf 40 = .ok (.iinc 4 1, 3) := by decide +kernel
set_option maxRecDepth 20000 in
theorem dX12_lastOf_43 : decode cX12_lastOf 43 = .ok (.goto (-35), 3) := by decide +kernel
set_option maxRecDepth 20000 in
theorem dX12_lastOf_46 : decode cX12_lastOf 46 = .ok (.iload_n 3, 1) := by decide +kernel
set_option maxRecDepth 20000 in
theorem dX12_lastOf_47 : decode cX12_lastOf 47 = .ok (.ireturn, 1) := by decide +kernel
set_option maxRecDepth 20000 in
theorem kt_X12_lastOf_0 (g : gx_T) : ∀ q ∈ k_X12_lastOf_0, gx_E g gc_md RX12 cX12_lastOf 5 (some .int) "lastOf" q.1 q.2 := List.forall_mem_cons.mpr ⟨(gs_iload_n dX12_lastOf_0 rfl), List.forall_mem_cons.mpr ⟨
  (gs_istore_n dX12_lastOf_1 rfl), List.forall_mem_cons.mpr ⟨
  (gs_aload_n dX12_lastOf_2 rfl), List.forall_mem_cons.mpr ⟨
  (gs_cv dX12_lastOf_3 (fun q hq => by
      simp only [List.mem_cons, List.not_mem_nil, or_false] at hq
      subst hq
      exact Or.inl ⟨_, rfl, by decide, by decide +kernel, by decide +kernel, List.forall_mem_cons.mpr ⟨gx_mem 1348 (by decide +kernel) (by decide +kernel), List.forall_mem_cons.mpr ⟨gx_mem 1350 (by decide +kernel) (by decide +kernel), List.forall_mem_cons.mpr ⟨gx_mem 41 (by decide +kernel) (by decide +kernel), List.forall_mem_cons.mpr ⟨gx_mem 96 (by decide +kernel) (by decide +kernel), List.forall_mem_cons.mpr ⟨cw_1351, fun _ h => absurd h List.not_mem_nil⟩⟩⟩⟩⟩⟩)), List.forall_mem_cons.mpr ⟨
  (gs_istore dX12_lastOf_6), List.forall_mem_cons.mpr ⟨
  (gs_iload dX12_lastOf_8), List.forall_mem_cons.mpr ⟨
  (gs_aload_n dX12_lastOf_10 rfl), List.forall_mem_cons.mpr ⟨
  (gs_cv dX12_lastOf_11 (fun q hq => by
      simp only [List.mem_cons, List.not_mem_nil, or_false] at hq
      subst hq
      exact Or.inl ⟨_, rfl, by decide, by decide +kernel, by decide +kernel, List.forall_mem_cons.mpr ⟨gx_mem 1352 (by decide +kernel) (by decide +kernel), List.forall_mem_cons.mpr ⟨gx_mem 1354 (by decide +kernel) (by decide +kernel), List.forall_mem_cons.mpr ⟨gx_mem 42 (by decide +kernel) (by decide +kernel), List.forall_mem_cons.mpr ⟨gx_mem 96 (by decide +kernel) (by decide +kernel), List.forall_mem_cons.mpr ⟨cw_1355, fun _ h => absurd h List.not_mem_nil⟩⟩⟩⟩⟩⟩)), List.forall_mem_cons.mpr ⟨
  (gs_icmp_ge dX12_lastOf_14 rfl), List.forall_mem_cons.mpr ⟨
  (gs_aload_n dX12_lastOf_17 rfl), List.forall_mem_cons.mpr ⟨
  (gs_gf (ref := "GriefCranesModel") dX12_lastOf_18 (gx_mem 1017 (by decide +kernel) (by decide +kernel)) (Or.inl rfl) gf_12_20), List.forall_mem_cons.mpr ⟨
  (gs_iload dX12_lastOf_21), List.forall_mem_cons.mpr ⟨
  (gs_iaload dX12_lastOf_23), List.forall_mem_cons.mpr ⟨
  (gs_iload_n dX12_lastOf_24 rfl), List.forall_mem_cons.mpr ⟨
  (gs_icmp_ne dX12_lastOf_25 rfl), List.forall_mem_cons.mpr ⟨
  (gs_aload_n dX12_lastOf_28 rfl), List.forall_mem_cons.mpr ⟨
  (gs_gf (ref := "GriefCranesModel") dX12_lastOf_29 (gx_mem 1018 (by decide +kernel) (by decide +kernel)) (Or.inl rfl) gf_12_21), List.forall_mem_cons.mpr ⟨
  (gs_iload dX12_lastOf_32), List.forall_mem_cons.mpr ⟨
  (gs_iaload dX12_lastOf_34), List.forall_mem_cons.mpr ⟨
  (gs_goto dX12_lastOf_35 rfl), List.forall_mem_cons.mpr ⟨
  (gs_iload_n dX12_lastOf_38 rfl), List.forall_mem_cons.mpr ⟨
  (gs_istore_n dX12_lastOf_39 rfl), List.forall_mem_cons.mpr ⟨
  (gs_iinc dX12_lastOf_40), List.forall_mem_cons.mpr ⟨
  (gs_goto dX12_lastOf_43 rfl), List.forall_mem_cons.mpr ⟨
  (gs_iload_n dX12_lastOf_46 rfl), List.forall_mem_cons.mpr ⟨
  (gs_ri dX12_lastOf_47), fun _ h => absurd h List.not_mem_nil⟩⟩⟩⟩⟩⟩⟩⟩⟩⟩⟩⟩⟩⟩⟩⟩⟩⟩⟩⟩⟩⟩⟩⟩⟩⟩
theorem kt_X12_lastOf (g : gx_T) : ∀ q ∈ k_X12_lastOf, gx_E g gc_md RX12 cX12_lastOf 5 (some .int) "lastOf" q.1 q.2 := kt_X12_lastOf_0 g
set_option maxRecDepth 20000 in
theorem dX12_bear_0 : decode cX12_bear 0 = .ok (.aload_n 0, 1) := by decide +kernel
set_option maxRecDepth 20000 in
theorem dX12_bear_1 : decode cX12_bear 1 = .ok (.iconst 2, 1) := by decide +kernel
set_option maxRecDepth 20000 in
theorem dX12_bear_2 : decode cX12_bear 2 = .ok (.bipush 12, 2) := by decide +kernel
set_option maxRecDepth 20000 in
theorem dX12_bear_4 : decode cX12_bear 4 = .ok (.invokevirtual 321, 3) := by decide +kernel
set_option maxRecDepth 20000 in
theorem dX12_bear_7 : decode cX12_bear 7 = .ok (.ireturn, 1) := by decide +kernel
set_option maxRecDepth 20000 in
theorem kt_X12_bear_0 (g : gx_T) : ∀ q ∈ k_X12_bear_0, gx_E g gc_md RX12 cX12_bear 1 (some .int) "bear" q.1 q.2 := List.forall_mem_cons.mpr ⟨(gs_aload_n dX12_bear_0 rfl), List.forall_mem_cons.mpr ⟨
  (gs_iconst dX12_bear_1 rfl), List.forall_mem_cons.mpr ⟨
  (gs_bipush dX12_bear_2 rfl), List.forall_mem_cons.mpr ⟨
  (gs_cv dX12_bear_4 (fun q hq => by
      simp only [List.mem_cons, List.not_mem_nil, or_false] at hq
      subst hq
      exact Or.inl ⟨_, rfl, by decide, by decide +kernel, by decide +kernel, List.forall_mem_cons.mpr ⟨gx_mem 1400 (by decide +kernel) (by decide +kernel), List.forall_mem_cons.mpr ⟨gx_mem 1402 (by decide +kernel) (by decide +kernel), List.forall_mem_cons.mpr ⟨gx_mem 53 (by decide +kernel) (by decide +kernel), List.forall_mem_cons.mpr ⟨gx_mem 96 (by decide +kernel) (by decide +kernel), List.forall_mem_cons.mpr ⟨cw_1403, fun _ h => absurd h List.not_mem_nil⟩⟩⟩⟩⟩⟩)), List.forall_mem_cons.mpr ⟨
  (gs_ri dX12_bear_7), fun _ h => absurd h List.not_mem_nil⟩⟩⟩⟩⟩
theorem kt_X12_bear (g : gx_T) : ∀ q ∈ k_X12_bear, gx_E g gc_md RX12 cX12_bear 1 (some .int) "bear" q.1 q.2 := kt_X12_bear_0 g
set_option maxRecDepth 20000 in
theorem dX12_hang_0 : decode cX12_hang 0 = .ok (.aload_n 0, 1) := by decide +kernel
set_option maxRecDepth 20000 in
theorem dX12_hang_1 : decode cX12_hang 1 = .ok (.iconst 3, 1) := by decide +kernel
set_option maxRecDepth 20000 in
theorem dX12_hang_2 : decode cX12_hang 2 = .ok (.iconst 2, 1) := by decide +kernel
set_option maxRecDepth 20000 in
theorem dX12_hang_3 : decode cX12_hang 3 = .ok (.invokevirtual 321, 3) := by decide +kernel
set_option maxRecDepth 20000 in
theorem dX12_hang_6 : decode cX12_hang 6 = .ok (.ireturn, 1) := by decide +kernel
set_option maxRecDepth 20000 in
theorem kt_X12_hang_0 (g : gx_T) : ∀ q ∈ k_X12_hang_0, gx_E g gc_md RX12 cX12_hang 1 (some .int) "hang" q.1 q.2 := List.forall_mem_cons.mpr ⟨(gs_aload_n dX12_hang_0 rfl), List.forall_mem_cons.mpr ⟨
  (gs_iconst dX12_hang_1 rfl), List.forall_mem_cons.mpr ⟨
  (gs_iconst dX12_hang_2 rfl), List.forall_mem_cons.mpr ⟨
  (gs_cv dX12_hang_3 (fun q hq => by
      simp only [List.mem_cons, List.not_mem_nil, or_false] at hq
      subst hq
      exact Or.inl ⟨_, rfl, by decide, by decide +kernel, by decide +kernel, List.forall_mem_cons.mpr ⟨gx_mem 1400 (by decide +kernel) (by decide +kernel), List.forall_mem_cons.mpr ⟨gx_mem 1402 (by decide +kernel) (by decide +kernel), List.forall_mem_cons.mpr ⟨gx_mem 53 (by decide +kernel) (by decide +kernel), List.forall_mem_cons.mpr ⟨gx_mem 96 (by decide +kernel) (by decide +kernel), List.forall_mem_cons.mpr ⟨cw_1403, fun _ h => absurd h List.not_mem_nil⟩⟩⟩⟩⟩⟩)), List.forall_mem_cons.mpr ⟨
  (gs_ri dX12_hang_6), fun _ h => absurd h List.not_mem_nil⟩⟩⟩⟩⟩
theorem kt_X12_hang (g : gx_T) : ∀ q ∈ k_X12_hang, gx_E g gc_md RX12 cX12_hang 1 (some .int) "hang" q.1 q.2 := kt_X12_hang_0 g
set_option maxRecDepth 20000 in
theorem dX12_factOf_0 : decode cX12_factOf 0 = .ok (.iload_n 1, 1) := by decide +kernel
set_option maxRecDepth 20000 in
theorem dX12_factOf_1 : decode cX12_factOf 1 = .ok (.tableswitch 63 0 4 #[35, 37, 44, 51, 53], 35) := by decide +kernel
set_option maxRecDepth 20000 in
theorem dX12_factOf_36 : decode cX12_factOf 36 = .ok (.iload_n 2, 1) := by decide +kernel
set_option maxRecDepth 20000 in
theorem dX12_factOf_37 : decode cX12_factOf 37 = .ok (.ireturn, 1) := by decide +kernel
set_option maxRecDepth 20000 in
theorem dX12_factOf_38 : decode cX12_factOf 38 = .ok (.aload_n 0, 1) := by decide +kernel
set_option maxRecDepth 20000 in
theorem dX12_factOf_39 : decode cX12_factOf 39 = .ok (.getfield 23, 3) := by decide +kernel
set_option maxRecDepth 20000 in
theorem dX12_factOf_42 : decode cX12_factOf 42 = .ok (.iload_n 2, 1) := by decide +kernel
set_option maxRecDepth 20000 in
theorem dX12_factOf_43 : decode cX12_factOf 43 = .ok (.iaload, 1) := by decide +kernel
set_option maxRecDepth 20000 in
theorem dX12_factOf_44 : decode cX12_factOf 44 = .ok (.ireturn, 1) := by decide +kernel
set_option maxRecDepth 20000 in
theorem dX12_factOf_45 : decode cX12_factOf 45 = .ok (.aload_n 0, 1) := by decide +kernel
set_option maxRecDepth 20000 in
theorem dX12_factOf_46 : decode cX12_factOf 46 = .ok (.getfield 26, 3) := by decide +kernel
set_option maxRecDepth 20000 in
theorem dX12_factOf_49 : decode cX12_factOf 49 = .ok (.iload_n 2, 1) := by decide +kernel
set_option maxRecDepth 20000 in
theorem dX12_factOf_50 : decode cX12_factOf 50 = .ok (.iaload, 1) := by decide +kernel
set_option maxRecDepth 20000 in
theorem dX12_factOf_51 : decode cX12_factOf 51 = .ok (.ireturn, 1) := by decide +kernel
set_option maxRecDepth 20000 in
theorem dX12_factOf_52 : decode cX12_factOf 52 = .ok (.iload_n 3, 1) := by decide +kernel
set_option maxRecDepth 20000 in
theorem dX12_factOf_53 : decode cX12_factOf 53 = .ok (.ireturn, 1) := by decide +kernel
set_option maxRecDepth 20000 in
theorem dX12_factOf_54 : decode cX12_factOf 54 = .ok (.aload_n 0, 1) := by decide +kernel
set_option maxRecDepth 20000 in
theorem dX12_factOf_55 : decode cX12_factOf 55 = .ok (.getfield 35, 3) := by decide +kernel
set_option maxRecDepth 20000 in
theorem dX12_factOf_58 : decode cX12_factOf 58 = .ok (.iload_n 3, 1) := by decide +kernel
set_option maxRecDepth 20000 in
theorem dX12_factOf_59 : decode cX12_factOf 59 = .ok (.iaload, 1) := by decide +kernel
set_option maxRecDepth 20000 in
theorem dX12_factOf_60 : decode cX12_factOf 60 = .ok (.bipush 10, 2) := by decide +kernel
set_option maxRecDepth 20000 in
theorem dX12_factOf_62 : decode cX12_factOf 62 = .ok (.idiv, 1) := by decide +kernel
set_option maxRecDepth 20000 in
theorem dX12_factOf_63 : decode cX12_factOf 63 = .ok (.ireturn, 1) := by decide +kernel
set_option maxRecDepth 20000 in
theorem dX12_factOf_64 : decode cX12_factOf 64 = .ok (.aload_n 0, 1) := by decide +kernel
set_option maxRecDepth 20000 in
theorem dX12_factOf_65 : decode cX12_factOf 65 = .ok (.getfield 16, 3) := by decide +kernel
set_option maxRecDepth 20000 in
theorem dX12_factOf_68 : decode cX12_factOf 68 = .ok (.bipush 10, 2) := by decide +kernel
set_option maxRecDepth 20000 in
theorem dX12_factOf_70 : decode cX12_factOf 70 = .ok (.irem, 1) := by decide +kernel
set_option maxRecDepth 20000 in
theorem dX12_factOf_71 : decode cX12_factOf 71 = .ok (.ireturn, 1) := by decide +kernel
set_option maxRecDepth 20000 in
theorem kt_X12_factOf_0 (g : gx_T) : ∀ q ∈ k_X12_factOf_0, gx_E g gc_md RX12 cX12_factOf 4 (some .int) "factOf" q.1 q.2 := List.forall_mem_cons.mpr ⟨(gs_iload_n dX12_factOf_0 rfl), List.forall_mem_cons.mpr ⟨
  (gs_tsw (lo := 0) (offs := [35, 37, 44, 51, 53]) dX12_factOf_1 (by decide +kernel) (by decide +kernel)), List.forall_mem_cons.mpr ⟨
  (gs_iload_n dX12_factOf_36 rfl), List.forall_mem_cons.mpr ⟨
  (gs_ri dX12_factOf_37), List.forall_mem_cons.mpr ⟨
  (gs_aload_n dX12_factOf_38 rfl), List.forall_mem_cons.mpr ⟨
  (gs_gf (ref := "GriefCranesModel") dX12_factOf_39 (gx_mem 1001 (by decide +kernel) (by decide +kernel)) (Or.inl rfl) gf_12_4), List.forall_mem_cons.mpr ⟨
  (gs_iload_n dX12_factOf_42 rfl), List.forall_mem_cons.mpr ⟨
  (gs_iaload dX12_factOf_43), List.forall_mem_cons.mpr ⟨
  (gs_ri dX12_factOf_44), List.forall_mem_cons.mpr ⟨
  (gs_aload_n dX12_factOf_45 rfl), List.forall_mem_cons.mpr ⟨
  (gs_gf (ref := "GriefCranesModel") dX12_factOf_46 (gx_mem 1002 (by decide +kernel) (by decide +kernel)) (Or.inl rfl) gf_12_5), List.forall_mem_cons.mpr ⟨
  (gs_iload_n dX12_factOf_49 rfl), List.forall_mem_cons.mpr ⟨
  (gs_iaload dX12_factOf_50), List.forall_mem_cons.mpr ⟨
  (gs_ri dX12_factOf_51), List.forall_mem_cons.mpr ⟨
  (gs_iload_n dX12_factOf_52 rfl), List.forall_mem_cons.mpr ⟨
  (gs_ri dX12_factOf_53), List.forall_mem_cons.mpr ⟨
  (gs_aload_n dX12_factOf_54 rfl), List.forall_mem_cons.mpr ⟨
  (gs_gf (ref := "GriefCranesModel") dX12_factOf_55 (gx_mem 1005 (by decide +kernel) (by decide +kernel)) (Or.inl rfl) gf_12_8), List.forall_mem_cons.mpr ⟨
  (gs_iload_n dX12_factOf_58 rfl), List.forall_mem_cons.mpr ⟨
  (gs_iaload dX12_factOf_59), List.forall_mem_cons.mpr ⟨
  (gs_bipush dX12_factOf_60 rfl), List.forall_mem_cons.mpr ⟨
  (gs_idiv dX12_factOf_62), List.forall_mem_cons.mpr ⟨
  (gs_ri dX12_factOf_63), List.forall_mem_cons.mpr ⟨
  (gs_aload_n dX12_factOf_64 rfl), List.forall_mem_cons.mpr ⟨
  (gs_gf (ref := "GriefCranesModel") dX12_factOf_65 (gx_mem 999 (by decide +kernel) (by decide +kernel)) (Or.inl rfl) gf_12_2), List.forall_mem_cons.mpr ⟨
  (gs_bipush dX12_factOf_68 rfl), List.forall_mem_cons.mpr ⟨
  (gs_irem dX12_factOf_70), List.forall_mem_cons.mpr ⟨
  (gs_ri dX12_factOf_71), fun _ h => absurd h List.not_mem_nil⟩⟩⟩⟩⟩⟩⟩⟩⟩⟩⟩⟩⟩⟩⟩⟩⟩⟩⟩⟩⟩⟩⟩⟩⟩⟩⟩⟩
theorem kt_X12_factOf (g : gx_T) : ∀ q ∈ k_X12_factOf, gx_E g gc_md RX12 cX12_factOf 4 (some .int) "factOf" q.1 q.2 := kt_X12_factOf_0 g
set_option maxRecDepth 20000 in
theorem dX12_holds_0 : decode cX12_holds 0 = .ok (.iconst 0, 1) := by decide +kernel
set_option maxRecDepth 20000 in
theorem dX12_holds_1 : decode cX12_holds 1 = .ok (.istore 4, 2) := by decide +kernel
set_option maxRecDepth 20000 in
theorem dX12_holds_3 : decode cX12_holds 3 = .ok (.aload_n 0, 1) := by decide +kernel
set_option maxRecDepth 20000 in
theorem dX12_holds_4 : decode cX12_holds 4 = .ok (.getfield 77, 3) := by decide +kernel
set_option maxRecDepth 20000 in
theorem dX12_holds_7 : decode cX12_holds 7 = .ok (.iload_n 1, 1) := by decide +kernel
set_option maxRecDepth 20000 in
theorem dX12_holds_8 : decode cX12_holds 8 = .ok (.iaload, 1) := by decide +kernel
set_option maxRecDepth 20000 in
theorem dX12_holds_9 : decode cX12_holds 9 = .ok (.istore 5, 2) := by decide +kernel
set_option maxRecDepth 20000 in
theorem dX12_holds_11 : decode cX12_holds 11 = .ok (.iload 5, 2) := by decide +kernel
set_option maxRecDepth 20000 in
theorem dX12_holds_13 : decode cX12_holds 13 = .ok (.aload_n 0, 1) := by decide +kernel
set_option maxRecDepth 20000 in
theorem dX12_holds_14 : decode cX12_holds 14 = .ok (.getfield 80, 3) := by decide +kernel
set_option maxRecDepth 20000 in
theorem dX12_holds_17 : decode cX12_holds 17 = .ok (.iload_n 1, 1) := by decide +kernel
set_option maxRecDepth 20000 in
theorem dX12_holds_18 : decode cX12_holds 18 = .ok (.iaload, 1) := by decide +kernel
set_option maxRecDepth 20000 in
theorem dX12_holds_19 : decode cX12_holds 19 = .ok (.if_icmp .ge 234, 3) := by decide +kernel
set_option maxRecDepth 20000 in
theorem dX12_holds_22 : decode cX12_holds 22 = .ok (.aload_n 0, 1) := by decide +kernel
set_option maxRecDepth 20000 in
theorem dX12_holds_23 : decode cX12_holds 23 = .ok (.getfield 83, 3) := by decide +kernel
set_option maxRecDepth 20000 in
theorem dX12_holds_26 : decode cX12_holds 26 = .ok (.iload 5, 2) := by decide +kernel
set_option maxRecDepth 20000 in
theorem dX12_holds_28 : decode cX12_holds 28 = .ok (.iaload, 1) := by decide +kernel
set_option maxRecDepth 20000 in
theorem dX12_holds_29 : decode cX12_holds 29 = .ok (.istore 6, 2) := by decide +kernel
set_option maxRecDepth 20000 in
theorem dX12_holds_31 : decode cX12_holds 31 = .ok (.iload 6, 2) := by decide +kernel
set_option maxRecDepth 20000 in
theorem dX12_holds_33 : decode cX12_holds 33 = .ok (.bipush (-33), 2) := by decide +kernel
set_option maxRecDepth 20000 in
theorem dX12_holds_35 : decode cX12_holds 35 = .ok (.if_icmp .ne 32, 3) := by decide +kernel
set_option maxRecDepth 20000 in
theorem dX12_holds_38 : decode cX12_holds 38 = .ok (.aload_n 0, 1) := by decide +kernel
set_option maxRecDepth 20000 in
theorem dX12_holds_39 : decode cX12_holds 39 = .ok (.getfield 101, 3) := by decide +kernel
set_option maxRecDepth 20000 in
theorem dX12_holds_42 : decode cX12_holds 42 = .ok (.iload 4, 2) := by decide +kernel
set_option maxRecDepth 20000 in
theorem dX12_holds_44 : decode cX12_holds 44 = .ok (.iconst 1, 1) := by decide +kernel
set_option maxRecDepth 20000 in
theorem dX12_holds_45 : decode cX12_holds 45 = .ok (.isub, 1) := by decide +kernel
set_option maxRecDepth 20000 in
theorem dX12_holds_46 : decode cX12_holds 46 = .ok (.aload_n 0, 1) := by decide +kernel
set_option maxRecDepth 20000 in
theorem dX12_holds_47 : decode cX12_holds 47 = .ok (.getfield 101, 3) := by decide +kernel
set_option maxRecDepth 20000 in
theorem dX12_holds_50 : decode cX12_holds 50 = .ok (.iload 4, 2) := by decide +kernel
set_option maxRecDepth 20000 in
theorem dX12_holds_52 : decode cX12_holds 52 = .ok (.iconst 1, 1) := by decide +kernel
set_option maxRecDepth 20000 in
theorem dX12_holds_53 : decode cX12_holds 53 = .ok (.isub, 1) := by decide +kernel
set_option maxRecDepth 20000 in
theorem dX12_holds_54 : decode cX12_holds 54 = .ok (.baload, 1) := by decide +kernel
set_option maxRecDepth 20000 in
theorem dX12_holds_55 : decode cX12_holds 55 = .ok (.ifCond .ne 7, 3) := by decide +kernel
set_option maxRecDepth 20000 in
theorem dX12_holds_58 : decode cX12_holds 58 = .ok (.iconst 1, 1) := by decide +kernel
set_option maxRecDepth 20000 in
theorem dX12_holds_59 : decode cX12_holds 59 = .ok (.goto 4, 3) := by decide +kernel
set_option maxRecDepth 20000 in
theorem dX12_holds_62 : decode cX12_holds 62 = .ok (.iconst 0, 1) := by decide +kernel
set_option maxRecDepth 20000 in
theorem dX12_holds_63 : decode cX12_holds 63 = .ok (.bastore, 1) := by decide +kernel
set_option maxRecDepth 20000 in
theorem dX12_holds_64 : decode cX12_holds 64 = .ok (.goto 183, 3) := by decide +kernel
set_option maxRecDepth 20000 in
theorem dX12_holds_67 : decode cX12_holds 67 = .ok (.iload 6, 2) := by decide +kernel
set_option maxRecDepth 20000 in
theorem dX12_holds_69 : decode cX12_holds 69 = .ok (.ifCond .ge 82, 3) := by decide +kernel
set_option maxRecDepth 20000 in
theorem dX12_holds_72 : decode cX12_holds 72 = .ok (.iinc 4 (-1), 3) := by decide +kernel
set_option maxRecDepth 20000 in
theorem dX12_holds_75 : decode cX12_holds 75 = .ok (.aload_n 0, 1) := by decide +kernel
set_option maxRecDepth 20000 in
theorem dX12_holds_76 : decode cX12_holds 76 = .ok (.getfield 101, 3) := by decide +kernel
set_option maxRecDepth 20000 in
theorem dX12_holds_79 : decode cX12_holds 79 = .ok (.iload 4, 2) := by decide +kernel
set_option maxRecDepth 20000 in
theorem dX12_holds_81 : decode cX12_holds 81 = .ok (.iconst 1, 1) := by decide +kernel
set_option maxRecDepth 20000 in
theorem dX12_holds_82 : decode cX12_holds 82 = .ok (.isub, 1) := by decide +kernel
set_option maxRecDepth 20000 in
theorem dX12_holds_83 : decode cX12_holds 83 = .ok (.iload 6, 2) := by decide +kernel
set_option maxRecDepth 20000 in
theorem dX12_holds_85 : decode cX12_holds 85 = .ok (.bipush (-38), 2) := by decide +kernel
set_option maxRecDepth 20000 in
theorem dX12_holds_87 : decode cX12_holds 87 = .ok (.if_icmp .ne 33, 3) := by decide +kernel
set_option maxRecDepth 20000 in
theorem dX12_holds_90 : decode cX12_holds 90 = .ok (.aload_n 0, 1) := by decide +kernel
set_option maxRecDepth 20000 in
theorem dX12_holds_91 : decode cX12_holds 91 = .ok (.getfield 101, 3) := by decide +kernel
set_option maxRecDepth 20000 in
theorem dX12_holds_94 : decode cX12_holds 94 = .ok (.iload 4, 2) := by decide +kernel
set_option maxRecDepth 20000 in
theorem dX12_holds_96 : decode cX12_holds 96 = .ok (.iconst 1, 1) := by decide +kernel
set_option maxRecDepth 20000 in
theorem dX12_holds_97 : decode cX12_holds 97 = .ok (.isub, 1) := by decide +kernel
set_option maxRecDepth 20000 in
theorem dX12_holds_98 : decode cX12_holds 98 = .ok (.baload, 1) := by decide +kernel
set_option maxRecDepth 20000 in
theorem dX12_holds_99 : decode cX12_holds 99 = .ok (.ifCond .eq 17, 3) := by decide +kernel
set_option maxRecDepth 20000 in
theorem dX12_holds_102 : decode cX12_holds 102 = .ok (.aload_n 0, 1) := by decide +kernel
set_option maxRecDepth 20000 in
theorem dX12_holds_103 : decode cX12_holds 103 = .ok (.getfield 101, 3) := by decide +kernel
set_option maxRecDepth 20000 in
theorem dX12_holds_106 : decode cX12_holds 106 = .ok (.iload 4, 2) := by decide +kernel
set_option maxRecDepth 20000 in
theorem dX12_holds_108 : decode cX12_holds 108 = .ok (.baload, 1) := by decide +kernel
set_option maxRecDepth 20000 in
theorem dX12_holds_109 : decode cX12_holds 109 = .ok (.ifCond .eq 7, 3) := by decide +kernel
set_option maxRecDepth 20000 in
theorem dX12_holds_112 : decode cX12_holds 112 = .ok (.iconst 1, 1) := by decide +kernel
set_option maxRecDepth 20000 in
theorem dX12_holds_113 : decode cX12_holds 113 = .ok (.goto 34, 3) := by decide +kernel
set_option maxRecDepth 20000 in
theorem dX12_holds_116 : decode cX12_holds 116 = .ok (.iconst 0, 1) := by decide +kernel
set_option maxRecDepth 20000 in
theorem dX12_holds_117 : decode cX12_holds 117 = .ok (.goto 30, 3) := by decide +kernel
set_option maxRecDepth 20000 in
theorem dX12_holds_120 : decode cX12_holds 120 = .ok (.aload_n 0, 1) := by decide +kernel
set_option maxRecDepth 20000 in
theorem dX12_holds_121 : decode cX12_holds 121 = .ok (.getfield 101, 3) := by decide +kernel
set_option maxRecDepth 20000 in
theorem dX12_holds_124 : decode cX12_holds 124 = .ok (.iload 4, 2) := by decide +kernel
set_option maxRecDepth 20000 in
theorem dX12_holds_126 : decode cX12_holds 126 = .ok (.iconst 1, 1) := by decide +kernel
set_option maxRecDepth 20000 in
theorem dX12_holds_127 : decode cX12_holds 127 = .ok (.isub, 1) := by decide +kernel
set_option maxRecDepth 20000 in
theorem dX12_holds_128 : decode cX12_holds 128 = .ok (.baload, 1) := by decide +kernel
set_option maxRecDepth 20000 in
theorem dX12_holds_129 : decode cX12_holds 129 = .ok (.ifCond .ne 13, 3) := by decide +kernel
set_option maxRecDepth 20000 in
theorem dX12_holds_132 : decode cX12_holds 132 = .ok (.aload_n 0, 1) := by decide +kernel
set_option maxRecDepth 20000 in
theorem dX12_holds_133 : decode cX12_holds 133 = .ok (.getfield 101, 3) := by decide +kernel
set_option maxRecDepth 20000 in
theorem dX12_holds_136 : decode cX12_holds 136 = .ok (.iload 4, 2) := by decide +kernel
set_option maxRecDepth 20000 in
theorem dX12_holds_138 : decode cX12_holds 138 = .ok (.baload, 1) := by decide +kernel
set_option maxRecDepth 20000 in
theorem dX12_holds_139 : decode cX12_holds 139 = .ok (.ifCond .eq 7, 3) := by decide +kernel
set_option maxRecDepth 20000 in
theorem dX12_holds_142 : decode cX12_holds 142 = .ok (.iconst 1, 1) := by decide +kernel
set_option maxRecDepth 20000 in
theorem dX12_holds_143 : decode cX12_holds 143 = .ok (.goto 4, 3) := by decide +kernel
set_option maxRecDepth 20000 in
theorem dX12_holds_146 : decode cX12_holds 146 = .ok (.iconst 0, 1) := by decide +kernel
set_option maxRecDepth 20000 in
theorem dX12_holds_147 : decode cX12_holds 147 = .ok (.bastore, 1) := by decide +kernel
set_option maxRecDepth 20000 in
theorem dX12_holds_148 : decode cX12_holds 148 = .ok (.goto 99, 3) := by decide +kernel
set_option maxRecDepth 20000 in
theorem dX12_holds_151 : decode cX12_holds 151 = .ok (.aload_n 0, 1) := by decide +kernel
set_option maxRecDepth 20000 in
theorem dX12_holds_152 : decode cX12_holds 152 = .ok (.iload 6, 2) := by decide +kernel
set_option maxRecDepth 20000 in
theorem dX12_holds_154 : decode cX12_holds 154 = .ok (.sipush 1000, 3) := by decide +kernel
set_option maxRecDepth 20000 in
theorem dX12_holds_157 : decode cX12_holds 157 = .ok (.idiv, 1) := by decide +kernel
set_option maxRecDepth 20000 in
theorem dX12_holds_158 : decode cX12_holds 158 = .ok (.iload_n 2, 1) := by decide +kernel
set_option maxRecDepth 20000 in
theorem dX12_holds_159 : decode cX12_holds 159 = .ok (.iload_n 3, 1) := by decide +kernel
set_option maxRecDepth 20000 in
theorem dX12_holds_160 : decode cX12_holds 160 = .ok (.invokevirtual 325, 3) := by decide +kernel
set_option maxRecDepth 20000 in
theorem dX12_holds_163 : decode cX12_holds 163 = .ok (.istore 7, 2) := by decide +kernel
set_option maxRecDepth 20000 in
theorem dX12_holds_165 : decode cX12_holds 165 = .ok (.iload 6, 2) := by decide +kernel
set_option maxRecDepth 20000 in
theorem dX12_holds_167 : decode cX12_holds 167 = .ok (.bipush 100, 2) := by decide +kernel
set_option maxRecDepth 20000 in
theorem dX12_holds_169 : decode cX12_holds 169 = .ok (.idiv, 1) := by decide +kernel
set_option maxRecDepth 20000 in
theorem dX12_holds_170 : decode cX12_holds 170 = .ok (.bipush 10, 2) := by decide +kernel
set_option maxRecDepth 20000 in
theorem dX12_holds_172 : decode cX12_holds 172 = .ok (.irem, 1) := by decide +kernel
set_option maxRecDepth 20000 in
theorem dX12_holds_173 : decode cX12_holds 173 = .ok (.istore 8, 2) := by decide +kernel
set_option maxRecDepth 20000 in
theorem dX12_holds_175 : decode cX12_holds 175 = .ok (.aload_n 0, 1) := by decide +kernel
set_option maxRecDepth 20000 in
theorem dX12_holds_176 : decode cX12_holds 176 = .ok (.getfield 101, 3) := by decide +kernel
set_option maxRecDepth 20000 in
theorem dX12_holds_179 : decode cX12_holds 179 = .ok (.iload 4, 2) := by decide +kernel
set_option maxRecDepth 20000 in
theorem dX12_holds_181 : decode cX12_holds 181 = .ok (.iload 8, 2) := by decide +kernel
set_option maxRecDepth 20000 in
theorem dX12_holds_183 : decode cX12_holds 183 = .ok (.ifCond .ne 21, 3) := by decide +kernel
set_option maxRecDepth 20000 in
theorem dX12_holds_186 : decode cX12_holds 186 = .ok (.iload 7, 2) := by decide +kernel
set_option maxRecDepth 20000 in
theorem dX12_holds_188 : decode cX12_holds 188 = .ok (.iload 6, 2) := by decide +kernel
set_option maxRecDepth 20000 in
theorem dX12_holds_190 : decode cX12_holds 190 = .ok (.bipush 100, 2) := by decide +kernel
set_option maxRecDepth 20000 in
theorem dX12_holds_192 : decode cX12_holds 192 = .ok (.irem, 1) := by decide +kernel
set_option maxRecDepth 20000 in
theorem dX12_holds_193 : decode cX12_holds 193 = .ok (.if_icmp .ge 7, 3) := by decide +kernel
set_option maxRecDepth 20000 in
theorem dX12_holds_196 : decode cX12_holds 196 = .ok (.iconst 1, 1) := by decide +kernel
set_option maxRecDepth 20000 in
theorem dX12_holds_197 : decode cX12_holds 197 = .ok (.goto 46, 3) := by decide +kernel
set_option maxRecDepth 20000 in
theorem dX12_holds_200 : decode cX12_holds 200 = .ok (.iconst 0, 1) := by decide +kernel
set_option maxRecDepth 20000 in
theorem dX12_holds_201 : decode cX12_holds 201 = .ok (.goto 42, 3) := by decide +kernel
set_option maxRecDepth 20000 in
theorem dX12_holds_204 : decode cX12_holds 204 = .ok (.iload 8, 2) := by decide +kernel
set_option maxRecDepth 20000 in
theorem dX12_holds_206 : decode cX12_holds 206 = .ok (.iconst 1, 1) := by decide +kernel
set_option maxRecDepth 20000 in
theorem dX12_holds_207 : decode cX12_holds 207 = .ok (.if_icmp .ne 21, 3) := by decide +kernel
set_option maxRecDepth 20000 in
theorem dX12_holds_210 : decode cX12_holds 210 = .ok (.iload 7, 2) := by decide +kernel
set_option maxRecDepth 20000 in
theorem dX12_holds_212 : decode cX12_holds 212 = .ok (.iload 6, 2) := by decide +kernel
set_option maxRecDepth 20000 in
theorem dX12_holds_214 : decode cX12_holds 214 = .ok (.bipush 100, 2) := by decide +kernel
set_option maxRecDepth 20000 in
theorem dX12_holds_216 : decode cX12_holds 216 = .ok (.irem, 1) := by decide +kernel
set_option maxRecDepth 20000 in
theorem dX12_holds_217 : decode cX12_holds 217 = .ok (.if_icmp .ne 7, 3) := by decide +kernel
set_option maxRecDepth 20000 in
theorem dX12_holds_220 : decode cX12_holds 220 = .ok (.iconst 1, 1) := by decide +kernel
set_option maxRecDepth 20000 in
theorem dX12_holds_221 : decode cX12_holds 221 = .ok (.goto 22, 3) := by decide +kernel
set_option maxRecDepth 20000 in
theorem dX12_holds_224 : decode cX12_holds 224 = .ok (.iconst 0, 1) := by decide +kernel
set_option maxRecDepth 20000 in
theorem dX12_holds_225 : decode cX12_holds 225 = .ok (.goto 18, 3) := by decide +kernel
set_option maxRecDepth 20000 in
theorem dX12_holds_228 : decode cX12_holds 228 = .ok (.iload 7, 2) := by decide +kernel
set_option maxRecDepth 20000 in
theorem dX12_holds_230 : decode cX12_holds 230 = .ok (.iload 6, 2) := by decide +kernel
set_option maxRecDepth 20000 in
theorem dX12_holds_232 : decode cX12_holds 232 = .ok (.bipush 100, 2) := by decide +kernel
set_option maxRecDepth 20000 in
theorem dX12_holds_234 : decode cX12_holds 234 = .ok (.irem, 1) := by decide +kernel
set_option maxRecDepth 20000 in
theorem dX12_holds_235 : decode cX12_holds 235 = .ok (.if_icmp .le 7, 3) := by decide +kernel
set_option maxRecDepth 20000 in
theorem dX12_holds_238 : decode cX12_holds 238 = .ok (.iconst 1, 1) := by decide +kernel
set_option maxRecDepth 20000 in
theorem dX12_holds_239 : decode cX12_holds 239 = .ok (.goto 4, 3) := by decide +kernel
set_option maxRecDepth 20000 in
theorem dX12_holds_242 : decode cX12_holds 242 = .ok (.iconst 0, 1) := by decide +kernel
set_option maxRecDepth 20000 in
theorem dX12_holds_243 : decode cX12_holds 243 = .ok (.bastore, 1) := by decide +kernel
set_option maxRecDepth 20000 in
theorem dX12_holds_244 : decode cX12_holds 244 = .ok (.iinc 4 1, 3) := by decide +kernel
set_option maxRecDepth 20000 in
theorem dX12_holds_247 : decode cX12_holds 247 = .ok (.iinc 5 1, 3) := by decide +kernel
set_option maxRecDepth 20000 in
theorem dX12_holds_250 : decode cX12_holds 250 = .ok (.goto (-239), 3) := by decide +kernel
set_option maxRecDepth 20000 in
theorem dX12_holds_253 : decode cX12_holds 253 = .ok (.aload_n 0, 1) := by decide +kernel
set_option maxRecDepth 20000 in
theorem dX12_holds_254 : decode cX12_holds 254 = .ok (.getfield 101, 3) := by decide +kernel
set_option maxRecDepth 20000 in
theorem dX12_holds_257 : decode cX12_holds 257 = .ok (.iconst 0, 1) := by decide +kernel
set_option maxRecDepth 20000 in
theorem dX12_holds_258 : decode cX12_holds 258 = .ok (.baload, 1) := by decide +kernel
set_option maxRecDepth 20000 in
theorem dX12_holds_259 : decode cX12_holds 259 = .ok (.ireturn, 1) := by decide +kernel
set_option maxRecDepth 20000 in
theorem kt_X12_holds_0 (g : gx_T) : ∀ q ∈ k_X12_holds_0, gx_E g gc_md RX12 cX12_holds 9 (some .boolean) "holds" q.1 q.2 := List.forall_mem_cons.mpr ⟨(gs_iconst dX12_holds_0 rfl), List.forall_mem_cons.mpr ⟨
  (gs_istore dX12_holds_1), List.forall_mem_cons.mpr ⟨
  (gs_aload_n dX12_holds_3 rfl), List.forall_mem_cons.mpr ⟨
  (gs_gf (ref := "GriefCranesModel") dX12_holds_4 (gx_mem 1019 (by decide +kernel) (by decide +kernel)) (Or.inl rfl) gf_12_22), List.forall_mem_cons.mpr ⟨
  (gs_iload_n dX12_holds_7 rfl), List.forall_mem_cons.mpr ⟨
  (gs_iaload dX12_holds_8), List.forall_mem_cons.mpr ⟨
  (gs_istore dX12_holds_9), List.forall_mem_cons.mpr ⟨
  (gs_iload dX12_holds_11), List.forall_mem_cons.mpr ⟨
  (gs_aload_n dX12_holds_13 rfl), List.forall_mem_cons.mpr ⟨
  (gs_gf (ref := "GriefCranesModel") dX12_holds_14 (gx_mem 1020 (by decide +kernel) (by decide +kernel)) (Or.inl rfl) gf_12_23), List.forall_mem_cons.mpr ⟨
  (gs_iload_n dX12_holds_17 rfl), List.forall_mem_cons.mpr ⟨
  (gs_iaload dX12_holds_18), List.forall_mem_cons.mpr ⟨
  (gs_icmp_ge dX12_holds_19 rfl), List.forall_mem_cons.mpr ⟨
  (gs_aload_n dX12_holds_22 rfl), List.forall_mem_cons.mpr ⟨
  (gs_gf (ref := "GriefCranesModel") dX12_holds_23 (gx_mem 1021 (by decide +kernel) (by decide +kernel)) (Or.inl rfl) gf_12_24), List.forall_mem_cons.mpr ⟨
  (gs_iload dX12_holds_26), List.forall_mem_cons.mpr ⟨
  (gs_iaload dX12_holds_28), List.forall_mem_cons.mpr ⟨
  (gs_istore dX12_holds_29), List.forall_mem_cons.mpr ⟨
  (gs_iload dX12_holds_31), List.forall_mem_cons.mpr ⟨
  (gs_bipush dX12_holds_33 rfl), List.forall_mem_cons.mpr ⟨
  (gs_icmp_ne dX12_holds_35 rfl), List.forall_mem_cons.mpr ⟨
  (gs_aload_n dX12_holds_38 rfl), List.forall_mem_cons.mpr ⟨
  (gs_gf (ref := "GriefCranesModel") dX12_holds_39 (gx_mem 1027 (by decide +kernel) (by decide +kernel)) (Or.inl rfl) gf_12_30), List.forall_mem_cons.mpr ⟨
  (gs_iload dX12_holds_42), List.forall_mem_cons.mpr ⟨
  (gs_iconst dX12_holds_44 rfl), List.forall_mem_cons.mpr ⟨
  (gs_isub dX12_holds_45), List.forall_mem_cons.mpr ⟨
  (gs_aload_n dX12_holds_46 rfl), List.forall_mem_cons.mpr ⟨
  (gs_gf (ref := "GriefCranesModel") dX12_holds_47 (gx_mem 1027 (by decide +kernel) (by decide +kernel)) (Or.inl rfl) gf_12_30), List.forall_mem_cons.mpr ⟨
  (gs_iload dX12_holds_50), List.forall_mem_cons.mpr ⟨
  (gs_iconst dX12_holds_52 rfl), List.forall_mem_cons.mpr ⟨
  (gs_isub dX12_holds_53), List.forall_mem_cons.mpr ⟨
  (gs_zaload dX12_holds_54), fun _ h => absurd h List.not_mem_nil⟩⟩⟩⟩⟩⟩⟩⟩⟩⟩⟩⟩⟩⟩⟩⟩⟩⟩⟩⟩⟩⟩⟩⟩⟩⟩⟩⟩⟩⟩⟩⟩
set_option maxRecDepth 20000 in
theorem kt_X12_holds_1 (g : gx_T) : ∀ q ∈ k_X12_holds_1, gx_E g gc_md RX12 cX12_holds 9 (some .boolean) "holds" q.1 q.2 := List.forall_mem_cons.mpr ⟨(gs_if_ne dX12_holds_55 rfl), List.forall_mem_cons.mpr ⟨
  (gs_iconst dX12_holds_58 rfl), List.forall_mem_cons.mpr ⟨
  (gs_goto dX12_holds_59 rfl), List.forall_mem_cons.mpr ⟨
  (gs_iconst dX12_holds_62 rfl), List.forall_mem_cons.mpr ⟨
  (gs_zastore dX12_holds_63), List.forall_mem_cons.mpr ⟨
  (gs_goto dX12_holds_64 rfl), List.forall_mem_cons.mpr ⟨
  (gs_iload dX12_holds_67), List.forall_mem_cons.mpr ⟨
  (gs_if_ge dX12_holds_69 rfl), List.forall_mem_cons.mpr ⟨
  (gs_iinc dX12_holds_72), List.forall_mem_cons.mpr ⟨
  (gs_aload_n dX12_holds_75 rfl), List.forall_mem_cons.mpr ⟨
  (gs_gf (ref := "GriefCranesModel") dX12_holds_76 (gx_mem 1027 (by decide +kernel) (by decide +kernel)) (Or.inl rfl) gf_12_30), List.forall_mem_cons.mpr ⟨
  (gs_iload dX12_holds_79), List.forall_mem_cons.mpr ⟨
  (gs_iconst dX12_holds_81 rfl), List.forall_mem_cons.mpr ⟨
  (gs_isub dX12_holds_82), List.forall_mem_cons.mpr ⟨
  (gs_iload dX12_holds_83), List.forall_mem_cons.mpr ⟨
  (gs_bipush dX12_holds_85 rfl), List.forall_mem_cons.mpr ⟨
  (gs_icmp_ne dX12_holds_87 rfl), List.forall_mem_cons.mpr ⟨
  (gs_aload_n dX12_holds_90 rfl), List.forall_mem_cons.mpr ⟨
  (gs_gf (ref := "GriefCranesModel") dX12_holds_91 (gx_mem 1027 (by decide +kernel) (by decide +kernel)) (Or.inl rfl) gf_12_30), List.forall_mem_cons.mpr ⟨
  (gs_iload dX12_holds_94), List.forall_mem_cons.mpr ⟨
  (gs_iconst dX12_holds_96 rfl), List.forall_mem_cons.mpr ⟨
  (gs_isub dX12_holds_97), List.forall_mem_cons.mpr ⟨
  (gs_zaload dX12_holds_98), List.forall_mem_cons.mpr ⟨
  (gs_if_eq dX12_holds_99 rfl), List.forall_mem_cons.mpr ⟨
  (gs_aload_n dX12_holds_102 rfl), List.forall_mem_cons.mpr ⟨
  (gs_gf (ref := "GriefCranesModel") dX12_holds_103 (gx_mem 1027 (by decide +kernel) (by decide +kernel)) (Or.inl rfl) gf_12_30), List.forall_mem_cons.mpr ⟨
  (gs_iload dX12_holds_106), List.forall_mem_cons.mpr ⟨
  (gs_zaload dX12_holds_108), List.forall_mem_cons.mpr ⟨
  (gs_if_eq dX12_holds_109 rfl), List.forall_mem_cons.mpr ⟨
  (gs_iconst dX12_holds_112 rfl), List.forall_mem_cons.mpr ⟨
  (gs_goto dX12_holds_113 rfl), List.forall_mem_cons.mpr ⟨
  (gs_iconst dX12_holds_116 rfl), fun _ h => absurd h List.not_mem_nil⟩⟩⟩⟩⟩⟩⟩⟩⟩⟩⟩⟩⟩⟩⟩⟩⟩⟩⟩⟩⟩⟩⟩⟩⟩⟩⟩⟩⟩⟩⟩⟩
set_option maxRecDepth 20000 in
theorem kt_X12_holds_2 (g : gx_T) : ∀ q ∈ k_X12_holds_2, gx_E g gc_md RX12 cX12_holds 9 (some .boolean) "holds" q.1 q.2 := List.forall_mem_cons.mpr ⟨(gs_goto dX12_holds_117 rfl), List.forall_mem_cons.mpr ⟨
  (gs_aload_n dX12_holds_120 rfl), List.forall_mem_cons.mpr ⟨
  (gs_gf (ref := "GriefCranesModel") dX12_holds_121 (gx_mem 1027 (by decide +kernel) (by decide +kernel)) (Or.inl rfl) gf_12_30), List.forall_mem_cons.mpr ⟨
  (gs_iload dX12_holds_124), List.forall_mem_cons.mpr ⟨
  (gs_iconst dX12_holds_126 rfl), List.forall_mem_cons.mpr ⟨
  (gs_isub dX12_holds_127), List.forall_mem_cons.mpr ⟨
  (gs_zaload dX12_holds_128), List.forall_mem_cons.mpr ⟨
  (gs_if_ne dX12_holds_129 rfl), List.forall_mem_cons.mpr ⟨
  (gs_aload_n dX12_holds_132 rfl), List.forall_mem_cons.mpr ⟨
  (gs_gf (ref := "GriefCranesModel") dX12_holds_133 (gx_mem 1027 (by decide +kernel) (by decide +kernel)) (Or.inl rfl) gf_12_30), List.forall_mem_cons.mpr ⟨
  (gs_iload dX12_holds_136), List.forall_mem_cons.mpr ⟨
  (gs_zaload dX12_holds_138), List.forall_mem_cons.mpr ⟨
  (gs_if_eq dX12_holds_139 rfl), List.forall_mem_cons.mpr ⟨
  (gs_iconst dX12_holds_142 rfl), List.forall_mem_cons.mpr ⟨
  (gs_goto dX12_holds_143 rfl), List.forall_mem_cons.mpr ⟨
  (gs_iconst dX12_holds_146 rfl), List.forall_mem_cons.mpr ⟨
  (gs_zastore dX12_holds_147), List.forall_mem_cons.mpr ⟨
  (gs_goto dX12_holds_148 rfl), List.forall_mem_cons.mpr ⟨
  (gs_aload_n dX12_holds_151 rfl), List.forall_mem_cons.mpr ⟨
  (gs_iload dX12_holds_152), List.forall_mem_cons.mpr ⟨
  (gs_sipush dX12_holds_154 rfl), List.forall_mem_cons.mpr ⟨
  (gs_idiv dX12_holds_157), List.forall_mem_cons.mpr ⟨
  (gs_iload_n dX12_holds_158 rfl), List.forall_mem_cons.mpr ⟨
  (gs_iload_n dX12_holds_159 rfl), List.forall_mem_cons.mpr ⟨
  (gs_cv dX12_holds_160 (fun q hq => by
      simp only [List.mem_cons, List.not_mem_nil, or_false] at hq
      subst hq
      exact Or.inl ⟨_, rfl, by decide, by decide +kernel, by decide +kernel, List.forall_mem_cons.mpr ⟨gx_mem 1360 (by decide +kernel) (by decide +kernel), List.forall_mem_cons.mpr ⟨gx_mem 1362 (by decide +kernel) (by decide +kernel), List.forall_mem_cons.mpr ⟨gx_mem 44 (by decide +kernel) (by decide +kernel), List.forall_mem_cons.mpr ⟨gx_mem 96 (by decide +kernel) (by decide +kernel), List.forall_mem_cons.mpr ⟨cw_1363, fun _ h => absurd h List.not_mem_nil⟩⟩⟩⟩⟩⟩)), List.forall_mem_cons.mpr ⟨
  (gs_istore dX12_holds_163), List.forall_mem_cons.mpr ⟨
  (gs_iload dX12_holds_165), List.forall_mem_cons.mpr ⟨
  (gs_bipush dX12_holds_167 rfl), List.forall_mem_cons.mpr ⟨
  (gs_idiv dX12_holds_169), List.forall_mem_cons.mpr ⟨
  (gs_bipush dX12_holds_170 rfl), List.forall_mem_cons.mpr ⟨
  (gs_irem dX12_holds_172), List.forall_mem_cons.mpr ⟨
  (gs_istore dX12_holds_173), fun _ h => absurd h List.not_mem_nil⟩⟩⟩⟩⟩⟩⟩⟩⟩⟩⟩⟩⟩⟩⟩⟩⟩⟩⟩⟩⟩⟩⟩⟩⟩⟩⟩⟩⟩⟩⟩⟩
set_option maxRecDepth 20000 in
theorem kt_X12_holds_3 (g : gx_T) : ∀ q ∈ k_X12_holds_3, gx_E g gc_md RX12 cX12_holds 9 (some .boolean) "holds" q.1 q.2 := List.forall_mem_cons.mpr ⟨(gs_aload_n dX12_holds_175 rfl), List.forall_mem_cons.mpr ⟨
  (gs_gf (ref := "GriefCranesModel") dX12_holds_176 (gx_mem 1027 (by decide +kernel) (by decide +kernel)) (Or.inl rfl) gf_12_30), List.forall_mem_cons.mpr ⟨
  (gs_iload dX12_holds_179), List.forall_mem_cons.mpr ⟨
  (gs_iload dX12_holds_181), List.forall_mem_cons.mpr ⟨
  (gs_if_ne dX12_holds_183 rfl), List.forall_mem_cons.mpr ⟨
  (gs_iload dX12_holds_186), List.forall_mem_cons.mpr ⟨
  (gs_iload dX12_holds_188), List.forall_mem_cons.mpr ⟨
  (gs_bipush dX12_holds_190 rfl), List.forall_mem_cons.mpr ⟨
  (gs_irem dX12_holds_192), List.forall_mem_cons.mpr ⟨
  (gs_icmp_ge dX12_holds_193 rfl), List.forall_mem_cons.mpr ⟨
  (gs_iconst dX12_holds_196 rfl), List.forall_mem_cons.mpr ⟨
  (gs_goto dX12_holds_197 rfl), List.forall_mem_cons.mpr ⟨
  (gs_iconst dX12_holds_200 rfl), List.forall_mem_cons.mpr ⟨
  (gs_goto dX12_holds_201 rfl), List.forall_mem_cons.mpr ⟨
  (gs_iload dX12_holds_204), List.forall_mem_cons.mpr ⟨
  (gs_iconst dX12_holds_206 rfl), List.forall_mem_cons.mpr ⟨
  (gs_icmp_ne dX12_holds_207 rfl), List.forall_mem_cons.mpr ⟨
  (gs_iload dX12_holds_210), List.forall_mem_cons.mpr ⟨
  (gs_iload dX12_holds_212), List.forall_mem_cons.mpr ⟨
  (gs_bipush dX12_holds_214 rfl), List.forall_mem_cons.mpr ⟨
  (gs_irem dX12_holds_216), List.forall_mem_cons.mpr ⟨
  (gs_icmp_ne dX12_holds_217 rfl), List.forall_mem_cons.mpr ⟨
  (gs_iconst dX12_holds_220 rfl), List.forall_mem_cons.mpr ⟨
  (gs_goto dX12_holds_221 rfl), List.forall_mem_cons.mpr ⟨
  (gs_iconst dX12_holds_224 rfl), List.forall_mem_cons.mpr ⟨
  (gs_goto dX12_holds_225 rfl), List.forall_mem_cons.mpr ⟨
  (gs_iload dX12_holds_228), List.forall_mem_cons.mpr ⟨
  (gs_iload dX12_holds_230), List.forall_mem_cons.mpr ⟨
  (gs_bipush dX12_holds_232 rfl), List.forall_mem_cons.mpr ⟨
  (gs_irem dX12_holds_234), List.forall_mem_cons.mpr ⟨
  (gs_icmp_le dX12_holds_235 rfl), List.forall_mem_cons.mpr ⟨
  (gs_iconst dX12_holds_238 rfl), fun _ h => absurd h List.not_mem_nil⟩⟩⟩⟩⟩⟩⟩⟩⟩⟩⟩⟩⟩⟩⟩⟩⟩⟩⟩⟩⟩⟩⟩⟩⟩⟩⟩⟩⟩⟩⟩⟩
set_option maxRecDepth 20000 in
theorem kt_X12_holds_4 (g : gx_T) : ∀ q ∈ k_X12_holds_4, gx_E g gc_md RX12 cX12_holds 9 (some .boolean) "holds" q.1 q.2 := List.forall_mem_cons.mpr ⟨(gs_goto dX12_holds_239 rfl), List.forall_mem_cons.mpr ⟨
  (gs_iconst dX12_holds_242 rfl), List.forall_mem_cons.mpr ⟨
  (gs_zastore dX12_holds_243), List.forall_mem_cons.mpr ⟨
  (gs_iinc dX12_holds_244), List.forall_mem_cons.mpr ⟨
  (gs_iinc dX12_holds_247), List.forall_mem_cons.mpr ⟨
  (gs_goto dX12_holds_250 rfl), List.forall_mem_cons.mpr ⟨
  (gs_aload_n dX12_holds_253 rfl), List.forall_mem_cons.mpr ⟨
  (gs_gf (ref := "GriefCranesModel") dX12_holds_254 (gx_mem 1027 (by decide +kernel) (by decide +kernel)) (Or.inl rfl) gf_12_30), List.forall_mem_cons.mpr ⟨
  (gs_iconst dX12_holds_257 rfl), List.forall_mem_cons.mpr ⟨
  (gs_zaload dX12_holds_258), List.forall_mem_cons.mpr ⟨
  (gs_rn dX12_holds_259 (by decide)), fun _ h => absurd h List.not_mem_nil⟩⟩⟩⟩⟩⟩⟩⟩⟩⟩⟩
theorem kt_X12_holds (g : gx_T) : ∀ q ∈ k_X12_holds, gx_E g gc_md RX12 cX12_holds 9 (some .boolean) "holds" q.1 q.2 := List.forall_mem_append.mpr ⟨kt_X12_holds_0 g, List.forall_mem_append.mpr ⟨kt_X12_holds_1 g, List.forall_mem_append.mpr ⟨kt_X12_holds_2 g, List.forall_mem_append.mpr ⟨kt_X12_holds_3 g, kt_X12_holds_4 g⟩⟩⟩⟩
set_option maxRecDepth 20000 in
theorem dX12_sum_0 : decode cX12_sum 0 = .ok (.bipush 30, 2) := by decide +kernel
set_option maxRecDepth 20000 in
theorem dX12_sum_2 : decode cX12_sum 2 = .ok (.istore_n 3, 1) := by decide +kernel
set_option maxRecDepth 20000 in
theorem dX12_sum_3 : decode cX12_sum 3 = .ok (.aload_n 0, 1) := by decide +kernel
set_option maxRecDepth 20000 in
theorem dX12_sum_4 : decode cX12_sum 4 = .ok (.invokevirtual 315, 3) := by decide +kernel
set_option maxRecDepth 20000 in
theorem dX12_sum_7 : decode cX12_sum 7 = .ok (.istore 4, 2) := by decide +kernel
set_option maxRecDepth 20000 in
theorem dX12_sum_9 : decode cX12_sum 9 = .ok (.iload 4, 2) := by decide +kernel
set_option maxRecDepth 20000 in
theorem dX12_sum_11 : decode cX12_sum 11 = .ok (.aload_n 0, 1) := by decide +kernel
set_option maxRecDepth 20000 in
theorem dX12_sum_12 : decode cX12_sum 12 = .ok (.invokevirtual 318, 3) := by decide +kernel
set_option maxRecDepth 20000 in
theorem dX12_sum_15 : decode cX12_sum 15 = .ok (.if_icmp .ge 65, 3) := by decide +kernel
set_option maxRecDepth 20000 in
theorem dX12_sum_18 : decode cX12_sum 18 = .ok (.aload_n 0, 1) := by decide +kernel
set_option maxRecDepth 20000 in
theorem dX12_sum_19 : decode cX12_sum 19 = .ok (.getfield 71, 3) := by decide +kernel
set_option maxRecDepth 20000 in
theorem dX12_sum_22 : decode cX12_sum 22 = .ok (.iload 4, 2) := by decide +kernel
set_option maxRecDepth 20000 in
theorem dX12_sum_24 : decode cX12_sum 24 = .ok (.iaload, 1) := by decide +kernel
set_option maxRecDepth 20000 in
theorem dX12_sum_25 : decode cX12_sum 25 = .ok (.iconst 1, 1) := by decide +kernel
set_option maxRecDepth 20000 in
theorem dX12_sum_26 : decode cX12_sum 26 = .ok (.if_icmp .gt 48, 3) := by decide +kernel
set_option maxRecDepth 20000 in
theorem dX12_sum_29 : decode cX12_sum 29 = .ok (.aload_n 0, 1) := by decide +kernel
set_option maxRecDepth 20000 in
theorem dX12_sum_30 : decode cX12_sum 30 = .ok (.iload 4, 2) := by decide +kernel
set_option maxRecDepth 20000 in
theorem dX12_sum_32 : decode cX12_sum 32 = .ok (.iload_n 1, 1) := by decide +kernel
set_option maxRecDepth 20000 in
theorem dX12_sum_33 : decode cX12_sum 33 = .ok (.iload_n 2, 1) := by decide +kernel
set_option maxRecDepth 20000 in
theorem dX12_sum_34 : decode cX12_sum 34 = .ok (.invokevirtual 329, 3) := by decide +kernel
set_option maxRecDepth 20000 in
theorem dX12_sum_37 : decode cX12_sum 37 = .ok (.ifCond .ne 6, 3) := by decide +kernel
set_option maxRecDepth 20000 in
theorem dX12_sum_40 : decode cX12_sum 40 = .ok (.goto 34, 3) := by decide +kernel
set_option maxRecDepth 20000 in
theorem dX12_sum_43 : decode cX12_sum 43 = .ok (.iload_n 3, 1) := by decide +kernel
set_option maxRecDepth 20000 in
theorem dX12_sum_44 : decode cX12_sum 44 = .ok (.aload_n 0, 1) := by decide +kernel
set_option maxRecDepth 20000 in
theorem dX12_sum_45 : decode cX12_sum 45 = .ok (.getfield 71, 3) := by decide +kernel
set_option maxRecDepth 20000 in
theorem dX12_sum_48 : decode cX12_sum 48 = .ok (.iload 4, 2) := by decide +kernel
set_option maxRecDepth 20000 in
theorem dX12_sum_50 : decode cX12_sum 50 = .ok (.iaload, 1) := by decide +kernel
set_option maxRecDepth 20000 in
theorem dX12_sum_51 : decode cX12_sum 51 = .ok (.ifCond .ne 13, 3) := by decide +kernel
set_option maxRecDepth 20000 in
theorem dX12_sum_54 : decode cX12_sum 54 = .ok (.aload_n 0, 1) := by decide +kernel
set_option maxRecDepth 20000 in
theorem dX12_sum_55 : decode cX12_sum 55 = .ok (.getfield 74, 3) := by decide +kernel
set_option maxRecDepth 20000 in
theorem dX12_sum_58 : decode cX12_sum 58 = .ok (.iload 4, 2) := by decide +kernel
set_option maxRecDepth 20000 in
theorem dX12_sum_60 : decode cX12_sum 60 = .ok (.iaload, 1) := by decide +kernel
set_option maxRecDepth 20000 in
theorem dX12_sum_61 : decode cX12_sum 61 = .ok (.goto 11, 3) := by decide +kernel
set_option maxRecDepth 20000 in
theorem dX12_sum_64 : decode cX12_sum 64 = .ok (.aload_n 0, 1) := by decide +kernel
set_option maxRecDepth 20000 in
theorem dX12_sum_65 : decode cX12_sum 65 = .ok (.getfield 74, 3) := by decide +kernel
set_option maxRecDepth 20000 in
theorem dX12_sum_68 : decode cX12_sum 68 = .ok (.iload 4, 2) := by decide +kernel
set_option maxRecDepth 20000 in
theorem dX12_sum_70 : decode cX12_sum 70 = .ok (.iaload, 1) := by decide +kernel
set_option maxRecDepth 20000 in
theorem dX12_sum_71 : decode cX12_sum 71 = .ok (.ineg, 1) := by decide +kernel
set_option maxRecDepth 20000 in
theorem dX12_sum_72 : decode cX12_sum 72 = .ok (.iadd, 1) := by decide +kernel
set_option maxRecDepth 20000 in
theorem dX12_sum_73 : decode cX12_sum 73 = .ok (.istore_n 3, 1) := by decide +kernel
set_option maxRecDepth 20000 in
theorem dX12_sum_74 : decode cX12_sum 74 = .ok (.iinc 4 1, 3) := by decide +kernel
set_option maxRecDepth 20000 in
theorem dX12_sum_77 : decode cX12_sum 77 = .ok (.goto (-68), 3) := by decide +kernel
set_option maxRecDepth 20000 in
theorem dX12_sum_80 : decode cX12_sum 80 = .ok (.iload_n 3, 1) := by decide +kernel
set_option maxRecDepth 20000 in
theorem dX12_sum_81 : decode cX12_sum 81 = .ok (.ireturn, 1) := by decide +kernel
set_option maxRecDepth 20000 in
theorem kt_X12_sum_0 (g : gx_T) : ∀ q ∈ k_X12_sum_0, gx_E g gc_md RX12 cX12_sum 5 (some .int) "sum" q.1 q.2 := List.forall_mem_cons.mpr ⟨(gs_bipush dX12_sum_0 rfl), List.forall_mem_cons.mpr ⟨
  (gs_istore_n dX12_sum_2 rfl), List.forall_mem_cons.mpr ⟨
  (gs_aload_n dX12_sum_3 rfl), List.forall_mem_cons.mpr ⟨
  (gs_cv dX12_sum_4 (fun q hq => by
      simp only [List.mem_cons, List.not_mem_nil, or_false] at hq
      subst hq
      exact Or.inl ⟨_, rfl, by decide, by decide +kernel, by decide +kernel, List.forall_mem_cons.mpr ⟨gx_mem 1348 (by decide +kernel) (by decide +kernel), List.forall_mem_cons.mpr ⟨gx_mem 1350 (by decide +kernel) (by decide +kernel), List.forall_mem_cons.mpr ⟨gx_mem 41 (by decide +kernel) (by decide +kernel), List.forall_mem_cons.mpr ⟨gx_mem 96 (by decide +kernel) (by decide +kernel), List.forall_mem_cons.mpr ⟨cw_1351, fun _ h => absurd h List.not_mem_nil⟩⟩⟩⟩⟩⟩)), List.forall_mem_cons.mpr ⟨
  (gs_istore dX12_sum_7), List.forall_mem_cons.mpr ⟨
  (gs_iload dX12_sum_9), List.forall_mem_cons.mpr ⟨
  (gs_aload_n dX12_sum_11 rfl), List.forall_mem_cons.mpr ⟨
  (gs_cv dX12_sum_12 (fun q hq => by
      simp only [List.mem_cons, List.not_mem_nil, or_false] at hq
      subst hq
      exact Or.inl ⟨_, rfl, by decide, by decide +kernel, by decide +kernel, List.forall_mem_cons.mpr ⟨gx_mem 1352 (by decide +kernel) (by decide +kernel), List.forall_mem_cons.mpr ⟨gx_mem 1354 (by decide +kernel) (by decide +kernel), List.forall_mem_cons.mpr ⟨gx_mem 42 (by decide +kernel) (by decide +kernel), List.forall_mem_cons.mpr ⟨gx_mem 96 (by decide +kernel) (by decide +kernel), List.forall_mem_cons.mpr ⟨cw_1355, fun _ h => absurd h List.not_mem_nil⟩⟩⟩⟩⟩⟩)), List.forall_mem_cons.mpr ⟨
  (gs_icmp_ge dX12_sum_15 rfl), List.forall_mem_cons.mpr ⟨
  (gs_aload_n dX12_sum_18 rfl), List.forall_mem_cons.mpr ⟨
  (gs_gf (ref := "GriefCranesModel") dX12_sum_19 (gx_mem 1017 (by decide +kernel) (by decide +kernel)) (Or.inl rfl) gf_12_20), List.forall_mem_cons.mpr ⟨
  (gs_iload dX12_sum_22), List.forall_mem_cons.mpr ⟨
  (gs_iaload dX12_sum_24), List.forall_mem_cons.mpr ⟨
  (gs_iconst dX12_sum_25 rfl), List.forall_mem_cons.mpr ⟨
  (gs_icmp_gt dX12_sum_26 rfl), List.forall_mem_cons.mpr ⟨
  (gs_aload_n dX12_sum_29 rfl), List.forall_mem_cons.mpr ⟨
  (gs_iload dX12_sum_30), List.forall_mem_cons.mpr ⟨
  (gs_iload_n dX12_sum_32 rfl), List.forall_mem_cons.mpr ⟨
  (gs_iload_n dX12_sum_33 rfl), List.forall_mem_cons.mpr ⟨
  (gs_cv dX12_sum_34 (fun q hq => by
      simp only [List.mem_cons, List.not_mem_nil, or_false] at hq
      subst hq
      exact Or.inl ⟨_, rfl, by decide, by decide +kernel, by decide +kernel, List.forall_mem_cons.mpr ⟨gx_mem 1356 (by decide +kernel) (by decide +kernel), List.forall_mem_cons.mpr ⟨gx_mem 1358 (by decide +kernel) (by decide +kernel), List.forall_mem_cons.mpr ⟨gx_mem 43 (by decide +kernel) (by decide +kernel), List.forall_mem_cons.mpr ⟨gx_mem 96 (by decide +kernel) (by decide +kernel), List.forall_mem_cons.mpr ⟨cw_1359, fun _ h => absurd h List.not_mem_nil⟩⟩⟩⟩⟩⟩)), List.forall_mem_cons.mpr ⟨
  (gs_if_ne dX12_sum_37 rfl), List.forall_mem_cons.mpr ⟨
  (gs_goto dX12_sum_40 rfl), List.forall_mem_cons.mpr ⟨
  (gs_iload_n dX12_sum_43 rfl), List.forall_mem_cons.mpr ⟨
  (gs_aload_n dX12_sum_44 rfl), List.forall_mem_cons.mpr ⟨
  (gs_gf (ref := "GriefCranesModel") dX12_sum_45 (gx_mem 1017 (by decide +kernel) (by decide +kernel)) (Or.inl rfl) gf_12_20), List.forall_mem_cons.mpr ⟨
  (gs_iload dX12_sum_48), List.forall_mem_cons.mpr ⟨
  (gs_iaload dX12_sum_50), List.forall_mem_cons.mpr ⟨
  (gs_if_ne dX12_sum_51 rfl), List.forall_mem_cons.mpr ⟨
  (gs_aload_n dX12_sum_54 rfl), List.forall_mem_cons.mpr ⟨
  (gs_gf (ref := "GriefCranesModel") dX12_sum_55 (gx_mem 1018 (by decide +kernel) (by decide +kernel)) (Or.inl rfl) gf_12_21), List.forall_mem_cons.mpr ⟨
  (gs_iload dX12_sum_58), List.forall_mem_cons.mpr ⟨
  (gs_iaload dX12_sum_60), fun _ h => absurd h List.not_mem_nil⟩⟩⟩⟩⟩⟩⟩⟩⟩⟩⟩⟩⟩⟩⟩⟩⟩⟩⟩⟩⟩⟩⟩⟩⟩⟩⟩⟩⟩⟩⟩⟩
set_option maxRecDepth 20000 in
theorem kt_X12_sum_1 (g : gx_T) : ∀ q ∈ k_X12_sum_1, gx_E g gc_md RX12 cX12_sum 5 (some .int) "sum" q.1 q.2 := List.forall_mem_cons.mpr ⟨(gs_goto dX12_sum_61 rfl), List.forall_mem_cons.mpr ⟨
  (gs_aload_n dX12_sum_64 rfl), List.forall_mem_cons.mpr ⟨
  (gs_gf (ref := "GriefCranesModel") dX12_sum_65 (gx_mem 1018 (by decide +kernel) (by decide +kernel)) (Or.inl rfl) gf_12_21), List.forall_mem_cons.mpr ⟨
  (gs_iload dX12_sum_68), List.forall_mem_cons.mpr ⟨
  (gs_iaload dX12_sum_70), List.forall_mem_cons.mpr ⟨
  (gs_ineg dX12_sum_71), List.forall_mem_cons.mpr ⟨
  (gs_iadd dX12_sum_72), List.forall_mem_cons.mpr ⟨
  (gs_istore_n dX12_sum_73 rfl), List.forall_mem_cons.mpr ⟨
  (gs_iinc dX12_sum_74), List.forall_mem_cons.mpr ⟨
  (gs_goto dX12_sum_77 rfl), List.forall_mem_cons.mpr ⟨
  (gs_iload_n dX12_sum_80 rfl), List.forall_mem_cons.mpr ⟨
  (gs_ri dX12_sum_81), fun _ h => absurd h List.not_mem_nil⟩⟩⟩⟩⟩⟩⟩⟩⟩⟩⟩⟩
theorem kt_X12_sum (g : gx_T) : ∀ q ∈ k_X12_sum, gx_E g gc_md RX12 cX12_sum 5 (some .int) "sum" q.1 q.2 := List.forall_mem_append.mpr ⟨kt_X12_sum_0 g, kt_X12_sum_1 g⟩
set_option maxRecDepth 20000 in
theorem dX12_blows_0 : decode cX12_blows 0 = .ok (.aload_n 0, 1) := by decide +kernel
set_option maxRecDepth 20000 in
theorem dX12_blows_1 : decode cX12_blows 1 = .ok (.getfield 19, 3) := by decide +kernel
set_option maxRecDepth 20000 in
theorem dX12_blows_4 : decode cX12_blows 4 = .ok (.aload_n 0, 1) := by decide +kernel
set_option maxRecDepth 20000 in
theorem dX12_blows_5 : decode cX12_blows 5 = .ok (.getfield 16, 3) := by decide +kernel
set_option maxRecDepth 20000 in
theorem dX12_blows_8 : decode cX12_blows 8 = .ok (.iconst 4, 1) := by decide +kernel
set_option maxRecDepth 20000 in
theorem dX12_blows_9 : decode cX12_blows 9 = .ok (.irem, 1) := by decide +kernel
set_option maxRecDepth 20000 in
theorem dX12_blows_10 : decode cX12_blows 10 = .ok (.iaload, 1) := by decide +kernel
set_option maxRecDepth 20000 in
theorem dX12_blows_11 : decode cX12_blows 11 = .ok (.ireturn, 1) := by decide +kernel
set_option maxRecDepth 20000 in
theorem kt_X12_blows_0 (g : gx_T) : ∀ q ∈ k_X12_blows_0, gx_E g gc_md RX12 cX12_blows 1 (some .int) "blows" q.1 q.2 := List.forall_mem_cons.mpr ⟨(gs_aload_n dX12_blows_0 rfl), List.forall_mem_cons.mpr ⟨
  (gs_gf (ref := "GriefCranesModel") dX12_blows_1 (gx_mem 1000 (by decide +kernel) (by decide +kernel)) (Or.inl rfl) gf_12_3), List.forall_mem_cons.mpr ⟨
  (gs_aload_n dX12_blows_4 rfl), List.forall_mem_cons.mpr ⟨
  (gs_gf (ref := "GriefCranesModel") dX12_blows_5 (gx_mem 999 (by decide +kernel) (by decide +kernel)) (Or.inl rfl) gf_12_2), List.forall_mem_cons.mpr ⟨
  (gs_iconst dX12_blows_8 rfl), List.forall_mem_cons.mpr ⟨
  (gs_irem dX12_blows_9), List.forall_mem_cons.mpr ⟨
  (gs_iaload dX12_blows_10), List.forall_mem_cons.mpr ⟨
  (gs_ri dX12_blows_11), fun _ h => absurd h List.not_mem_nil⟩⟩⟩⟩⟩⟩⟩⟩
theorem kt_X12_blows (g : gx_T) : ∀ q ∈ k_X12_blows, gx_E g gc_md RX12 cX12_blows 1 (some .int) "blows" q.1 q.2 := kt_X12_blows_0 g
set_option maxRecDepth 20000 in
theorem dX12_power_0 : decode cX12_power 0 = .ok (.aload_n 0, 1) := by decide +kernel
set_option maxRecDepth 20000 in
theorem dX12_power_1 : decode cX12_power 1 = .ok (.iload_n 1, 1) := by decide +kernel
set_option maxRecDepth 20000 in
theorem dX12_power_2 : decode cX12_power 2 = .ok (.iload_n 2, 1) := by decide +kernel
set_option maxRecDepth 20000 in
theorem dX12_power_3 : decode cX12_power 3 = .ok (.invokevirtual 332, 3) := by decide +kernel
set_option maxRecDepth 20000 in
theorem dX12_power_6 : decode cX12_power 6 = .ok (.istore_n 3, 1) := by decide +kernel
set_option maxRecDepth 20000 in
theorem dX12_power_7 : decode cX12_power 7 = .ok (.aload_n 0, 1) := by decide +kernel
set_option maxRecDepth 20000 in
theorem dX12_power_8 : decode cX12_power 8 = .ok (.invokevirtual 335, 3) := by decide +kernel
set_option maxRecDepth 20000 in
theorem dX12_power_11 : decode cX12_power 11 = .ok (.aload_n 0, 1) := by decide +kernel
set_option maxRecDepth 20000 in
theorem dX12_power_12 : decode cX12_power 12 = .ok (.getfield 26, 3) := by decide +kernel
set_option maxRecDepth 20000 in
theorem dX12_power_15 : decode cX12_power 15 = .ok (.iload_n 1, 1) := by decide +kernel
set_option maxRecDepth 20000 in
theorem dX12_power_16 : decode cX12_power 16 = .ok (.iaload, 1) := by decide +kernel
set_option maxRecDepth 20000 in
theorem dX12_power_17 : decode cX12_power 17 = .ok (.if_icmp .le 7, 3) := by decide +kernel
set_option maxRecDepth 20000 in
theorem dX12_power_20 : decode cX12_power 20 = .ok (.iconst 0, 1) := by decide +kernel
set_option maxRecDepth 20000 in
theorem dX12_power_21 : decode cX12_power 21 = .ok (.goto 4, 3) := by decide +kernel
set_option maxRecDepth 20000 in
theorem dX12_power_24 : decode cX12_power 24 = .ok (.iload_n 3, 1) := by decide +kernel
set_option maxRecDepth 20000 in
theorem dX12_power_25 : decode cX12_power 25 = .ok (.istore 4, 2) := by decide +kernel
set_option maxRecDepth 20000 in
theorem dX12_power_27 : decode cX12_power 27 = .ok (.aload_n 0, 1) := by decide +kernel
set_option maxRecDepth 20000 in
theorem dX12_power_28 : decode cX12_power 28 = .ok (.getfield 23, 3) := by decide +kernel
set_option maxRecDepth 20000 in
theorem dX12_power_31 : decode cX12_power 31 = .ok (.iload_n 1, 1) := by decide +kernel
set_option maxRecDepth 20000 in
theorem dX12_power_32 : decode cX12_power 32 = .ok (.iaload, 1) := by decide +kernel
set_option maxRecDepth 20000 in
theorem dX12_power_33 : decode cX12_power 33 = .ok (.tableswitch 127 1 6 #[39, 48, 55, 58, 91, 111], 39) := by decide +kernel
set_option maxRecDepth 20000 in
theorem dX12_power_72 : decode cX12_power 72 = .ok (.iload_n 3, 1) := by decide +kernel
set_option maxRecDepth 20000 in
theorem dX12_power_73 : decode cX12_power 73 = .ok (.aload_n 0, 1) := by decide +kernel
set_option maxRecDepth 20000 in
theorem dX12_power_74 : decode cX12_power 74 = .ok (.getfield 26, 3) := by decide +kernel
set_option maxRecDepth 20000 in
theorem dX12_power_77 : decode cX12_power 77 = .ok (.iload_n 1, 1) := by decide +kernel
set_option maxRecDepth 20000 in
theorem dX12_power_78 : decode cX12_power 78 = .ok (.iaload, 1) := by decide +kernel
set_option maxRecDepth 20000 in
theorem dX12_power_79 : decode cX12_power 79 = .ok (.iadd, 1) := by decide +kernel
set_option maxRecDepth 20000 in
theorem dX12_power_80 : decode cX12_power 80 = .ok (.ireturn, 1) := by decide +kernel
set_option maxRecDepth 20000 in
theorem dX12_power_81 : decode cX12_power 81 = .ok (.iload_n 3, 1) := by decide +kernel
set_option maxRecDepth 20000 in
theorem dX12_power_82 : decode cX12_power 82 = .ok (.iconst 2, 1) := by decide +kernel
set_option maxRecDepth 20000 in
theorem dX12_power_83 : decode cX12_power 83 = .ok (.idiv, 1) := by decide +kernel
set_option maxRecDepth 20000 in
theorem dX12_power_84 : decode cX12_power 84 = .ok (.bipush 10, 2) := by decide +kernel
set_option maxRecDepth 20000 in
theorem dX12_power_86 : decode cX12_power 86 = .ok (.iadd, 1) := by decide +kernel
set_option maxRecDepth 20000 in
theorem dX12_power_87 : decode cX12_power 87 = .ok (.ireturn, 1) := by decide +kernel
set_option maxRecDepth 20000 in
theorem dX12_power_88 : decode cX12_power 88 = .ok (.iload 4, 2) := by decide +kernel
set_option maxRecDepth 20000 in
theorem dX12_power_90 : decode cX12_power 90 = .ok (.ireturn, 1) := by decide +kernel
set_option maxRecDepth 20000 in
theorem dX12_power_91 : decode cX12_power 91 = .ok (.aload_n 0, 1) := by decide +kernel
set_option maxRecDepth 20000 in
theorem dX12_power_92 : decode cX12_power 92 = .ok (.getfield 35, 3) := by decide +kernel
set_option maxRecDepth 20000 in
theorem dX12_power_95 : decode cX12_power 95 = .ok (.iload_n 2, 1) := by decide +kernel
set_option maxRecDepth 20000 in
theorem dX12_power_96 : decode cX12_power 96 = .ok (.iaload, 1) := by decide +kernel
set_option maxRecDepth 20000 in
theorem dX12_power_97 : decode cX12_power 97 = .ok (.bipush 50, 2) := by decide +kernel
set_option maxRecDepth 20000 in
theorem dX12_power_99 : decode cX12_power 99 = .ok (.if_icmp .lt 16, 3) := by decide +kernel
set_option maxRecDepth 20000 in
theorem dX12_power_102 : decode cX12_power 102 = .ok (.iconst 2, 1) := by decide +kernel
set_option maxRecDepth 20000 in
theorem dX12_power_103 : decode cX12_power 103 = .ok (.iload_n 3, 1) := by decide +kernel
set_option maxRecDepth 20000 in
theorem dX12_power_104 : decode cX12_power 104 = .ok (.aload_n 0, 1) := by decide +kernel
set_option maxRecDepth 20000 in
theorem dX12_power_105 : decode cX12_power 105 = .ok (.getfield 26, 3) := by decide +kernel
set_option maxRecDepth 20000 in
theorem dX12_power_108 : decode cX12_power 108 = .ok (.iload_n 1, 1) := by decide +kernel
set_option maxRecDepth 20000 in
theorem dX12_power_109 : decode cX12_power 109 = .ok (.iaload, 1) := by decide +kernel
set_option maxRecDepth 20000 in
theorem dX12_power_110 : decode cX12_power 110 = .ok (.iadd, 1) := by decide +kernel
set_option maxRecDepth 20000 in
theorem dX12_power_111 : decode cX12_power 111 = .ok (.imul, 1) := by decide +kernel
set_option maxRecDepth 20000 in
theorem dX12_power_112 : decode cX12_power 112 = .ok (.goto 11, 3) := by decide +kernel
set_option maxRecDepth 20000 in
theorem dX12_power_115 : decode cX12_power 115 = .ok (.iload_n 3, 1) := by decide +kernel
set_option maxRecDepth 20000 in
theorem dX12_power_116 : decode cX12_power 116 = .ok (.aload_n 0, 1) := by decide +kernel
set_option maxRecDepth 20000 in
theorem dX12_power_117 : decode cX12_power 117 = .ok (.getfield 26, 3) := by decide +kernel
set_option maxRecDepth 20000 in
theorem dX12_power_120 : decode cX12_power 120 = .ok (.iload_n 1, 1) := by decide +kernel
set_option maxRecDepth 20000 in
theorem dX12_power_121 : decode cX12_power 121 = .ok (.iaload, 1) := by decide +kernel
set_option maxRecDepth 20000 in
theorem dX12_power_122 : decode cX12_power 122 = .ok (.iadd, 1) := by decide +kernel
set_option maxRecDepth 20000 in
theorem dX12_power_123 : decode cX12_power 123 = .ok (.ireturn, 1) := by decide +kernel
set_option maxRecDepth 20000 in
theorem dX12_power_124 : decode cX12_power 124 = .ok (.iload_n 3, 1) := by decide +kernel
set_option maxRecDepth 20000 in
theorem dX12_power_125 : decode cX12_power 125 = .ok (.iconst 2, 1) := by decide +kernel
set_option maxRecDepth 20000 in
theorem dX12_power_126 : decode cX12_power 126 = .ok (.idiv, 1) := by decide +kernel
set_option maxRecDepth 20000 in
theorem dX12_power_127 : decode cX12_power 127 = .ok (.bipush 10, 2) := by decide +kernel
set_option maxRecDepth 20000 in
theorem dX12_power_129 : decode cX12_power 129 = .ok (.iadd, 1) := by decide +kernel
set_option maxRecDepth 20000 in
theorem dX12_power_130 : decode cX12_power 130 = .ok (.aload_n 0, 1) := by decide +kernel
set_option maxRecDepth 20000 in
theorem dX12_power_131 : decode cX12_power 131 = .ok (.aload_n 0, 1) := by decide +kernel
set_option maxRecDepth 20000 in
theorem dX12_power_132 : decode cX12_power 132 = .ok (.getfield 29, 3) := by decide +kernel
set_option maxRecDepth 20000 in
theorem dX12_power_135 : decode cX12_power 135 = .ok (.iload_n 1, 1) := by decide +kernel
set_option maxRecDepth 20000 in
theorem dX12_power_136 : decode cX12_power 136 = .ok (.iaload, 1) := by decide +kernel
set_option maxRecDepth 20000 in
theorem dX12_power_137 : decode cX12_power 137 = .ok (.bipush 9, 2) := by decide +kernel
set_option maxRecDepth 20000 in
theorem dX12_power_139 : decode cX12_power 139 = .ok (.invokevirtual 338, 3) := by decide +kernel
set_option maxRecDepth 20000 in
theorem dX12_power_142 : decode cX12_power 142 = .ok (.isub, 1) := by decide +kernel
set_option maxRecDepth 20000 in
theorem dX12_power_143 : decode cX12_power 143 = .ok (.ireturn, 1) := by decide +kernel
set_option maxRecDepth 20000 in
theorem dX12_power_144 : decode cX12_power 144 = .ok (.iload 4, 2) := by decide +kernel
set_option maxRecDepth 20000 in
theorem dX12_power_146 : decode cX12_power 146 = .ok (.aload_n 0, 1) := by decide +kernel
set_option maxRecDepth 20000 in
theorem dX12_power_147 : decode cX12_power 147 = .ok (.getfield 32, 3) := by decide +kernel
set_option maxRecDepth 20000 in
theorem dX12_power_150 : decode cX12_power 150 = .ok (.iconst 4, 1) := by decide +kernel
set_option maxRecDepth 20000 in
theorem dX12_power_151 : decode cX12_power 151 = .ok (.iload_n 1, 1) := by decide +kernel
set_option maxRecDepth 20000 in
theorem dX12_power_152 : decode cX12_power 152 = .ok (.imul, 1) := by decide +kernel
set_option maxRecDepth 20000 in
theorem dX12_power_153 : decode cX12_power 153 = .ok (.iload_n 2, 1) := by decide +kernel
set_option maxRecDepth 20000 in
theorem dX12_power_154 : decode cX12_power 154 = .ok (.iconst 4, 1) := by decide +kernel
set_option maxRecDepth 20000 in
theorem dX12_power_155 : decode cX12_power 155 = .ok (.irem, 1) := by decide +kernel
set_option maxRecDepth 20000 in
theorem dX12_power_156 : decode cX12_power 156 = .ok (.iadd, 1) := by decide +kernel
set_option maxRecDepth 20000 in
theorem dX12_power_157 : decode cX12_power 157 = .ok (.iaload, 1) := by decide +kernel
set_option maxRecDepth 20000 in
theorem dX12_power_158 : decode cX12_power 158 = .ok (.iadd, 1) := by decide +kernel
set_option maxRecDepth 20000 in
theorem dX12_power_159 : decode cX12_power 159 = .ok (.ireturn, 1) := by decide +kernel
set_option maxRecDepth 20000 in
theorem dX12_power_160 : decode cX12_power 160 = .ok (.iload_n 3, 1) := by decide +kernel
set_option maxRecDepth 20000 in
theorem dX12_power_161 : decode cX12_power 161 = .ok (.ireturn, 1) := by decide +kernel
set_option maxRecDepth 20000 in
theorem kt_X12_power_0 (g : gx_T) : ∀ q ∈ k_X12_power_0, gx_E g gc_md RX12 cX12_power 5 (some .int) "power" q.1 q.2 := List.forall_mem_cons.mpr ⟨(gs_aload_n dX12_power_0 rfl), List.forall_mem_cons.mpr ⟨
  (gs_iload_n dX12_power_1 rfl), List.forall_mem_cons.mpr ⟨
  (gs_iload_n dX12_power_2 rfl), List.forall_mem_cons.mpr ⟨
  (gs_cv dX12_power_3 (fun q hq => by
      simp only [List.mem_cons, List.not_mem_nil, or_false] at hq
      subst hq
      exact Or.inl ⟨_, rfl, by decide, by decide +kernel, by decide +kernel, List.forall_mem_cons.mpr ⟨gx_mem 1344 (by decide +kernel) (by decide +kernel), List.forall_mem_cons.mpr ⟨gx_mem 1346 (by decide +kernel) (by decide +kernel), List.forall_mem_cons.mpr ⟨gx_mem 40 (by decide +kernel) (by decide +kernel), List.forall_mem_cons.mpr ⟨gx_mem 96 (by decide +kernel) (by decide +kernel), List.forall_mem_cons.mpr ⟨cw_1347, fun _ h => absurd h List.not_mem_nil⟩⟩⟩⟩⟩⟩)), List.forall_mem_cons.mpr ⟨
  (gs_istore_n dX12_power_6 rfl), List.forall_mem_cons.mpr ⟨
  (gs_aload_n dX12_power_7 rfl), List.forall_mem_cons.mpr ⟨
  (gs_cv dX12_power_8 (fun q hq => by
      simp only [List.mem_cons, List.not_mem_nil, or_false] at hq
      subst hq
      exact Or.inl ⟨_, rfl, by decide, by decide +kernel, by decide +kernel, List.forall_mem_cons.mpr ⟨gx_mem 1364 (by decide +kernel) (by decide +kernel), List.forall_mem_cons.mpr ⟨gx_mem 1366 (by decide +kernel) (by decide +kernel), List.forall_mem_cons.mpr ⟨gx_mem 45 (by decide +kernel) (by decide +kernel), List.forall_mem_cons.mpr ⟨gx_mem 96 (by decide +kernel) (by decide +kernel), List.forall_mem_cons.mpr ⟨cw_1367, fun _ h => absurd h List.not_mem_nil⟩⟩⟩⟩⟩⟩)), List.forall_mem_cons.mpr ⟨
  (gs_aload_n dX12_power_11 rfl), List.forall_mem_cons.mpr ⟨
  (gs_gf (ref := "GriefCranesModel") dX12_power_12 (gx_mem 1002 (by decide +kernel) (by decide +kernel)) (Or.inl rfl) gf_12_5), List.forall_mem_cons.mpr ⟨
  (gs_iload_n dX12_power_15 rfl), List.forall_mem_cons.mpr ⟨
  (gs_iaload dX12_power_16), List.forall_mem_cons.mpr ⟨
  (gs_icmp_le dX12_power_17 rfl), List.forall_mem_cons.mpr ⟨
  (gs_iconst dX12_power_20 rfl), List.forall_mem_cons.mpr ⟨
  (gs_goto dX12_power_21 rfl), List.forall_mem_cons.mpr ⟨
  (gs_iload_n dX12_power_24 rfl), List.forall_mem_cons.mpr ⟨
  (gs_istore dX12_power_25), List.forall_mem_cons.mpr ⟨
  (gs_aload_n dX12_power_27 rfl), List.forall_mem_cons.mpr ⟨
  (gs_gf (ref := "GriefCranesModel") dX12_power_28 (gx_mem 1001 (by decide +kernel) (by decide +kernel)) (Or.inl rfl) gf_12_4), List.forall_mem_cons.mpr ⟨
  (gs_iload_n dX12_power_31 rfl), List.forall_mem_cons.mpr ⟨
  (gs_iaload dX12_power_32), List.forall_mem_cons.mpr ⟨
  (gs_tsw (lo := 1) (offs := [39, 48, 55, 58, 91, 111]) dX12_power_33 (by decide +kernel) (by decide +kernel)), List.forall_mem_cons.mpr ⟨
  (gs_iload_n dX12_power_72 rfl), List.forall_mem_cons.mpr ⟨
  (gs_aload_n dX12_power_73 rfl), List.forall_mem_cons.mpr ⟨
  (gs_gf (ref := "GriefCranesModel") dX12_power_74 (gx_mem 1002 (by decide +kernel) (by decide +kernel)) (Or.inl rfl) gf_12_5), List.forall_mem_cons.mpr ⟨
  (gs_iload_n dX12_power_77 rfl), List.forall_mem_cons.mpr ⟨
  (gs_iaload dX12_power_78), List.forall_mem_cons.mpr ⟨
  (gs_iadd dX12_power_79), List.forall_mem_cons.mpr ⟨
  (gs_ri dX12_power_80), List.forall_mem_cons.mpr ⟨
  (gs_iload_n dX12_power_81 rfl), List.forall_mem_cons.mpr ⟨
  (gs_iconst dX12_power_82 rfl), List.forall_mem_cons.mpr ⟨
  (gs_idiv dX12_power_83), List.forall_mem_cons.mpr ⟨
  (gs_bipush dX12_power_84 rfl), fun _ h => absurd h List.not_mem_nil⟩⟩⟩⟩⟩⟩⟩⟩⟩⟩⟩⟩⟩⟩⟩⟩⟩⟩⟩⟩⟩⟩⟩⟩⟩⟩⟩⟩⟩⟩⟩⟩
set_option maxRecDepth 20000 in
theorem kt_X12_power_1 (g : gx_T) : ∀ q ∈ k_X12_power_1, gx_E g gc_md RX12 cX12_power 5 (some .int) "power" q.1 q.2 := List.forall_mem_cons.mpr ⟨(gs_iadd dX12_power_86), List.forall_mem_cons.mpr ⟨
  (gs_ri dX12_power_87), List.forall_mem_cons.mpr ⟨
  (gs_iload dX12_power_88), List.forall_mem_cons.mpr ⟨
  (gs_ri dX12_power_90), List.forall_mem_cons.mpr ⟨
  (gs_aload_n dX12_power_91 rfl), List.forall_mem_cons.mpr ⟨
  (gs_gf (ref := "GriefCranesModel") dX12_power_92 (gx_mem 1005 (by decide +kernel) (by decide +kernel)) (Or.inl rfl) gf_12_8), List.forall_mem_cons.mpr ⟨
  (gs_iload_n dX12_power_95 rfl), List.forall_mem_cons.mpr ⟨
  (gs_iaload dX12_power_96), List.forall_mem_cons.mpr ⟨
  (gs_bipush dX12_power_97 rfl), List.forall_mem_cons.mpr ⟨
  (gs_icmp_lt dX12_power_99 rfl), List.forall_mem_cons.mpr ⟨
  (gs_iconst dX12_power_102 rfl), List.forall_mem_cons.mpr ⟨
  (gs_iload_n dX12_power_103 rfl), List.forall_mem_cons.mpr ⟨
  (gs_aload_n dX12_power_104 rfl), List.forall_mem_cons.mpr ⟨
  (gs_gf (ref := "GriefCranesModel") dX12_power_105 (gx_mem 1002 (by decide +kernel) (by decide +kernel)) (Or.inl rfl) gf_12_5), List.forall_mem_cons.mpr ⟨
  (gs_iload_n dX12_power_108 rfl), List.forall_mem_cons.mpr ⟨
  (gs_iaload dX12_power_109), List.forall_mem_cons.mpr ⟨
  (gs_iadd dX12_power_110), List.forall_mem_cons.mpr ⟨
  (gs_imul dX12_power_111), List.forall_mem_cons.mpr ⟨
  (gs_goto dX12_power_112 rfl), List.forall_mem_cons.mpr ⟨
  (gs_iload_n dX12_power_115 rfl), List.forall_mem_cons.mpr ⟨
  (gs_aload_n dX12_power_116 rfl), List.forall_mem_cons.mpr ⟨
  (gs_gf (ref := "GriefCranesModel") dX12_power_117 (gx_mem 1002 (by decide +kernel) (by decide +kernel)) (Or.inl rfl) gf_12_5), List.forall_mem_cons.mpr ⟨
  (gs_iload_n dX12_power_120 rfl), List.forall_mem_cons.mpr ⟨
  (gs_iaload dX12_power_121), List.forall_mem_cons.mpr ⟨
  (gs_iadd dX12_power_122), List.forall_mem_cons.mpr ⟨
  (gs_ri dX12_power_123), List.forall_mem_cons.mpr ⟨
  (gs_iload_n dX12_power_124 rfl), List.forall_mem_cons.mpr ⟨
  (gs_iconst dX12_power_125 rfl), List.forall_mem_cons.mpr ⟨
  (gs_idiv dX12_power_126), List.forall_mem_cons.mpr ⟨
  (gs_bipush dX12_power_127 rfl), List.forall_mem_cons.mpr ⟨
  (gs_iadd dX12_power_129), List.forall_mem_cons.mpr ⟨
  (gs_aload_n dX12_power_130 rfl), fun _ h => absurd h List.not_mem_nil⟩⟩⟩⟩⟩⟩⟩⟩⟩⟩⟩⟩⟩⟩⟩⟩⟩⟩⟩⟩⟩⟩⟩⟩⟩⟩⟩⟩⟩⟩⟩⟩
set_option maxRecDepth 20000 in
theorem kt_X12_power_2 (g : gx_T) : ∀ q ∈ k_X12_power_2, gx_E g gc_md RX12 cX12_power 5 (some .int) "power" q.1 q.2 := List.forall_mem_cons.mpr ⟨(gs_aload_n dX12_power_131 rfl), List.forall_mem_cons.mpr ⟨
  (gs_gf (ref := "GriefCranesModel") dX12_power_132 (gx_mem 1003 (by decide +kernel) (by decide +kernel)) (Or.inl rfl) gf_12_6), List.forall_mem_cons.mpr ⟨
  (gs_iload_n dX12_power_135 rfl), List.forall_mem_cons.mpr ⟨
  (gs_iaload dX12_power_136), List.forall_mem_cons.mpr ⟨
  (gs_bipush dX12_power_137 rfl), List.forall_mem_cons.mpr ⟨
  (gs_cv dX12_power_139 (fun q hq => by
      simp only [List.mem_cons, List.not_mem_nil, or_false] at hq
      subst hq
      exact Or.inl ⟨_, rfl, by decide, by decide +kernel, by decide +kernel, List.forall_mem_cons.mpr ⟨gx_mem 1368 (by decide +kernel) (by decide +kernel), List.forall_mem_cons.mpr ⟨gx_mem 1370 (by decide +kernel) (by decide +kernel), List.forall_mem_cons.mpr ⟨gx_mem 46 (by decide +kernel) (by decide +kernel), List.forall_mem_cons.mpr ⟨gx_mem 96 (by decide +kernel) (by decide +kernel), List.forall_mem_cons.mpr ⟨cw_1371, fun _ h => absurd h List.not_mem_nil⟩⟩⟩⟩⟩⟩)), List.forall_mem_cons.mpr ⟨
  (gs_isub dX12_power_142), List.forall_mem_cons.mpr ⟨
  (gs_ri dX12_power_143), List.forall_mem_cons.mpr ⟨
  (gs_iload dX12_power_144), List.forall_mem_cons.mpr ⟨
  (gs_aload_n dX12_power_146 rfl), List.forall_mem_cons.mpr ⟨
  (gs_gf (ref := "GriefCranesModel") dX12_power_147 (gx_mem 1004 (by decide +kernel) (by decide +kernel)) (Or.inl rfl) gf_12_7), List.forall_mem_cons.mpr ⟨
  (gs_iconst dX12_power_150 rfl), List.forall_mem_cons.mpr ⟨
  (gs_iload_n dX12_power_151 rfl), List.forall_mem_cons.mpr ⟨
  (gs_imul dX12_power_152), List.forall_mem_cons.mpr ⟨
  (gs_iload_n dX12_power_153 rfl), List.forall_mem_cons.mpr ⟨
  (gs_iconst dX12_power_154 rfl), List.forall_mem_cons.mpr ⟨
  (gs_irem dX12_power_155), List.forall_mem_cons.mpr ⟨
  (gs_iadd dX12_power_156), List.forall_mem_cons.mpr ⟨
  (gs_iaload dX12_power_157), List.forall_mem_cons.mpr ⟨
  (gs_iadd dX12_power_158), List.forall_mem_cons.mpr ⟨
  (gs_ri dX12_power_159), List.forall_mem_cons.mpr ⟨
  (gs_iload_n dX12_power_160 rfl), List.forall_mem_cons.mpr ⟨
  (gs_ri dX12_power_161), fun _ h => absurd h List.not_mem_nil⟩⟩⟩⟩⟩⟩⟩⟩⟩⟩⟩⟩⟩⟩⟩⟩⟩⟩⟩⟩⟩⟩⟩
theorem kt_X12_power (g : gx_T) : ∀ q ∈ k_X12_power, gx_E g gc_md RX12 cX12_power 5 (some .int) "power" q.1 q.2 := List.forall_mem_append.mpr ⟨kt_X12_power_0 g, List.forall_mem_append.mpr ⟨kt_X12_power_1 g, kt_X12_power_2 g⟩⟩
set_option maxRecDepth 20000 in
theorem dX12_hungBy_0 : decode cX12_hungBy 0 = .ok (.iconst 0, 1) := by decide +kernel
set_option maxRecDepth 20000 in
theorem dX12_hungBy_1 : decode cX12_hungBy 1 = .ok (.istore_n 2, 1) := by decide +kernel
set_option maxRecDepth 20000 in
theorem dX12_hungBy_2 : decode cX12_hungBy 2 = .ok (.iload_n 2, 1) := by decide +kernel
set_option maxRecDepth 20000 in
theorem dX12_hungBy_3 : decode cX12_hungBy 3 = .ok (.aload_n 0, 1) := by decide +kernel
set_option maxRecDepth 20000 in
theorem dX12_hungBy_4 : decode cX12_hungBy 4 = .ok (.getfield 13, 3) := by decide +kernel
set_option maxRecDepth 20000 in
theorem dX12_hungBy_7 : decode cX12_hungBy 7 = .ok (.if_icmp .ge 31, 3) := by decide +kernel
set_option maxRecDepth 20000 in
theorem dX12_hungBy_10 : decode cX12_hungBy 10 = .ok (.aload_n 0, 1) := by decide +kernel
set_option maxRecDepth 20000 in
theorem dX12_hungBy_11 : decode cX12_hungBy 11 = .ok (.getfield 41, 3) := by decide +kernel
set_option maxRecDepth 20000 in
theorem dX12_hungBy_14 : decode cX12_hungBy 14 = .ok (.iload_n 2, 1) := by decide +kernel
set_option maxRecDepth 20000 in
theorem dX12_hungBy_15 : decode cX12_hungBy 15 = .ok (.iaload, 1) := by decide +kernel
set_option maxRecDepth 20000 in
theorem dX12_hungBy_16 : decode cX12_hungBy 16 = .ok (.iconst 1, 1) := by decide +kernel
set_option maxRecDepth 20000 in
theorem dX12_hungBy_17 : decode cX12_hungBy 17 = .ok (.if_icmp .ne 15, 3) := by decide +kernel
set_option maxRecDepth 20000 in
theorem dX12_hungBy_20 : decode cX12_hungBy 20 = .ok (.aload_n 0, 1) := by decide +kernel
set_option maxRecDepth 20000 in
theorem dX12_hungBy_21 : decode cX12_hungBy 21 = .ok (.getfield 38, 3) := by decide +kernel
set_option maxRecDepth 20000 in
theorem dX12_hungBy_24 : decode cX12_hungBy 24 = .ok (.iload_n 2, 1) := by decide +kernel
set_option maxRecDepth 20000 in
theorem dX12_hungBy_25 : decode cX12_hungBy 25 = .ok (.iaload, 1) := by decide +kernel
set_option maxRecDepth 20000 in
theorem dX12_hungBy_26 : decode cX12_hungBy 26 = .ok (.iload_n 1, 1) := by decide +kernel
set_option maxRecDepth 20000 in
theorem dX12_hungBy_27 : decode cX12_hungBy 27 = .ok (.if_icmp .ne 5, 3) := by decide +kernel
set_option maxRecDepth 20000 in
theorem dX12_hungBy_30 : decode cX12_hungBy 30 = .ok (.iload_n 2, 1) := by decide +kernel
set_option maxRecDepth 20000 in
theorem dX12_hungBy_31 : decode cX12_hungBy 31 = .ok (.ireturn, 1) := by decide +kernel
set_option maxRecDepth 20000 in
theorem dX12_hungBy_32 : decode cX12_hungBy 32 = .ok (.iinc 2 1, 3) := by decide +kernel
set_option maxRecDepth 20000 in
theorem dX12_hungBy_35 : decode cX12_hungBy 35 = .ok (.goto (-33), 3) := by decide +kernel
set_option maxRecDepth 20000 in
theorem dX12_hungBy_38 : decode cX12_hungBy 38 = .ok (.bipush (-5), 2) := by decide +kernel
set_option maxRecDepth 20000 in
theorem dX12_hungBy_40 : decode cX12_hungBy 40 = .ok (.ireturn, 1) := by decide +kernel
set_option maxRecDepth 20000 in
theorem kt_X12_hungBy_0 (g : gx_T) : ∀ q ∈ k_X12_hungBy_0, gx_E g gc_md RX12 cX12_hungBy 3 (some .int) "hungBy" q.1 q.2 := List.forall_mem_cons.mpr ⟨(gs_iconst dX12_hungBy_0 rfl), List.forall_mem_cons.mpr ⟨
  (gs_istore_n dX12_hungBy_1 rfl), List.forall_mem_cons.mpr ⟨
  (gs_iload_n dX12_hungBy_2 rfl), List.forall_mem_cons.mpr ⟨
  (gs_aload_n dX12_hungBy_3 rfl), List.forall_mem_cons.mpr ⟨
  (gs_gf (ref := "GriefCranesModel") dX12_hungBy_4 (gx_mem 998 (by decide +kernel) (by decide +kernel)) (Or.inl rfl) gf_12_1), List.forall_mem_cons.mpr ⟨
  (gs_icmp_ge dX12_hungBy_7 rfl), List.forall_mem_cons.mpr ⟨
  (gs_aload_n dX12_hungBy_10 rfl), List.forall_mem_cons.mpr ⟨
  (gs_gf (ref := "GriefCranesModel") dX12_hungBy_11 (gx_mem 1007 (by decide +kernel) (by decide +kernel)) (Or.inl rfl) gf_12_10), List.forall_mem_cons.mpr ⟨
  (gs_iload_n dX12_hungBy_14 rfl), List.forall_mem_cons.mpr ⟨
  (gs_iaload dX12_hungBy_15), List.forall_mem_cons.mpr ⟨
  (gs_iconst dX12_hungBy_16 rfl), List.forall_mem_cons.mpr ⟨
  (gs_icmp_ne dX12_hungBy_17 rfl), List.forall_mem_cons.mpr ⟨
  (gs_aload_n dX12_hungBy_20 rfl), List.forall_mem_cons.mpr ⟨
  (gs_gf (ref := "GriefCranesModel") dX12_hungBy_21 (gx_mem 1006 (by decide +kernel) (by decide +kernel)) (Or.inl rfl) gf_12_9), List.forall_mem_cons.mpr ⟨
  (gs_iload_n dX12_hungBy_24 rfl), List.forall_mem_cons.mpr ⟨
  (gs_iaload dX12_hungBy_25), List.forall_mem_cons.mpr ⟨
  (gs_iload_n dX12_hungBy_26 rfl), List.forall_mem_cons.mpr ⟨
  (gs_icmp_ne dX12_hungBy_27 rfl), List.forall_mem_cons.mpr ⟨
  (gs_iload_n dX12_hungBy_30 rfl), List.forall_mem_cons.mpr ⟨
  (gs_ri dX12_hungBy_31), List.forall_mem_cons.mpr ⟨
  (gs_iinc dX12_hungBy_32), List.forall_mem_cons.mpr ⟨
  (gs_goto dX12_hungBy_35 rfl), List.forall_mem_cons.mpr ⟨
  (gs_bipush dX12_hungBy_38 rfl), List.forall_mem_cons.mpr ⟨
  (gs_ri dX12_hungBy_40), fun _ h => absurd h List.not_mem_nil⟩⟩⟩⟩⟩⟩⟩⟩⟩⟩⟩⟩⟩⟩⟩⟩⟩⟩⟩⟩⟩⟩⟩⟩
theorem kt_X12_hungBy (g : gx_T) : ∀ q ∈ k_X12_hungBy, gx_E g gc_md RX12 cX12_hungBy 3 (some .int) "hungBy" q.1 q.2 := kt_X12_hungBy_0 g
set_option maxRecDepth 20000 in
theorem dX12_of_0 : decode cX12_of 0 = .ok (.aload_n 0, 1) := by decide +kernel
set_option maxRecDepth 20000 in
theorem dX12_of_1 : decode cX12_of 1 = .ok (.iload_n 1, 1) := by decide +kernel
set_option maxRecDepth 20000 in
theorem dX12_of_2 : decode cX12_of 2 = .ok (.invokevirtual 259, 3) := by decide +kernel
set_option maxRecDepth 20000 in
theorem dX12_of_5 : decode cX12_of 5 = .ok (.ifCond .ne 7, 3) := by decide +kernel
set_option maxRecDepth 20000 in
theorem dX12_of_8 : decode cX12_of 8 = .ok (.sipush (-10001), 3) := by decide +kernel
set_option maxRecDepth 20000 in
theorem dX12_of_11 : decode cX12_of 11 = .ok (.ireturn, 1) := by decide +kernel
set_option maxRecDepth 20000 in
theorem dX12_of_12 : decode cX12_of 12 = .ok (.aload_n 0, 1) := by decide +kernel
set_option maxRecDepth 20000 in
theorem dX12_of_13 : decode cX12_of 13 = .ok (.iload_n 2, 1) := by decide +kernel
set_option maxRecDepth 20000 in
theorem dX12_of_14 : decode cX12_of 14 = .ok (.bipush 10, 2) := by decide +kernel
set_option maxRecDepth 20000 in
theorem dX12_of_16 : decode cX12_of 16 = .ok (.bipush 9, 2) := by decide +kernel
set_option maxRecDepth 20000 in
theorem dX12_of_18 : decode cX12_of 18 = .ok (.aload_n 0, 1) := by decide +kernel
set_option maxRecDepth 20000 in
theorem dX12_of_19 : decode cX12_of 19 = .ok (.getfield 13, 3) := by decide +kernel
set_option maxRecDepth 20000 in
theorem dX12_of_22 : decode cX12_of 22 = .ok (.iadd, 1) := by decide +kernel
set_option maxRecDepth 20000 in
theorem dX12_of_23 : decode cX12_of 23 = .ok (.invokevirtual 255, 3) := by decide +kernel
set_option maxRecDepth 20000 in
theorem dX12_of_26 : decode cX12_of 26 = .ok (.ifCond .eq 13, 3) := by decide +kernel
set_option maxRecDepth 20000 in
theorem dX12_of_29 : decode cX12_of 29 = .ok (.aload_n 0, 1) := by decide +kernel
set_option maxRecDepth 20000 in
theorem dX12_of_30 : decode cX12_of 30 = .ok (.iload_n 1, 1) := by decide +kernel
set_option maxRecDepth 20000 in
theorem dX12_of_31 : decode cX12_of 31 = .ok (.iload_n 2, 1) := by decide +kernel
set_option maxRecDepth 20000 in
theorem dX12_of_32 : decode cX12_of 32 = .ok (.bipush 10, 2) := by decide +kernel
set_option maxRecDepth 20000 in
theorem dX12_of_34 : decode cX12_of 34 = .ok (.isub, 1) := by decide +kernel
set_option maxRecDepth 20000 in
theorem dX12_of_35 : decode cX12_of 35 = .ok (.invokevirtual 341, 3) := by decide +kernel
set_option maxRecDepth 20000 in
theorem dX12_of_38 : decode cX12_of 38 = .ok (.ireturn, 1) := by decide +kernel
set_option maxRecDepth 20000 in
theorem dX12_of_39 : decode cX12_of 39 = .ok (.iload_n 2, 1) := by decide +kernel
set_option maxRecDepth 20000 in
theorem dX12_of_40 : decode cX12_of 40 = .ok (.tableswitch 59 0 3 #[32, 39, 46, 53], 32) := by decide +kernel
set_option maxRecDepth 20000 in
theorem dX12_of_72 : decode cX12_of 72 = .ok (.aload_n 0, 1) := by decide +kernel
set_option maxRecDepth 20000 in
theorem dX12_of_73 : decode cX12_of 73 = .ok (.getfield 23, 3) := by decide +kernel
set_option maxRecDepth 20000 in
theorem dX12_of_76 : decode cX12_of 76 = .ok (.iload_n 1, 1) := by decide +kernel
set_option maxRecDepth 20000 in
theorem dX12_of_77 : decode cX12_of 77 = .ok (.iaload, 1) := by decide +kernel
set_option maxRecDepth 20000 in
theorem dX12_of_78 : decode cX12_of 78 = .ok (.ireturn, 1) := by decide +kernel
set_option maxRecDepth 20000 in
theorem dX12_of_79 : decode cX12_of 79 = .ok (.aload_n 0, 1) := by decide +kernel
set_option maxRecDepth 20000 in
theorem dX12_of_80 : decode cX12_of 80 = .ok (.getfield 26, 3) := by decide +kernel
set_option maxRecDepth 20000 in
theorem dX12_of_83 : decode cX12_of 83 = .ok (.iload_n 1, 1) := by decide +kernel
set_option maxRecDepth 20000 in
theorem dX12_of_84 : decode cX12_of 84 = .ok (.iaload, 1) := by decide +kernel
set_option maxRecDepth 20000 in
theorem dX12_of_85 : decode cX12_of 85 = .ok (.ireturn, 1) := by decide +kernel
set_option maxRecDepth 20000 in
theorem dX12_of_86 : decode cX12_of 86 = .ok (.aload_n 0, 1) := by decide +kernel
set_option maxRecDepth 20000 in
theorem dX12_of_87 : decode cX12_of 87 = .ok (.getfield 29, 3) := by decide +kernel
set_option maxRecDepth 20000 in
theorem dX12_of_90 : decode cX12_of 90 = .ok (.iload_n 1, 1) := by decide +kernel
set_option maxRecDepth 20000 in
theorem dX12_of_91 : decode cX12_of 91 = .ok (.iaload, 1) := by decide +kernel
set_option maxRecDepth 20000 in
theorem dX12_of_92 : decode cX12_of 92 = .ok (.ireturn, 1) := by decide +kernel
set_option maxRecDepth 20000 in
theorem dX12_of_93 : decode cX12_of 93 = .ok (.aload_n 0, 1) := by decide +kernel
set_option maxRecDepth 20000 in
theorem dX12_of_94 : decode cX12_of 94 = .ok (.iload_n 1, 1) := by decide +kernel
set_option maxRecDepth 20000 in
theorem dX12_of_95 : decode cX12_of 95 = .ok (.invokevirtual 344, 3) := by decide +kernel
set_option maxRecDepth 20000 in
theorem dX12_of_98 : decode cX12_of 98 = .ok (.ireturn, 1) := by decide +kernel
set_option maxRecDepth 20000 in
theorem dX12_of_99 : decode cX12_of 99 = .ok (.sipush (-10001), 3) := by decide +kernel
set_option maxRecDepth 20000 in
theorem dX12_of_102 : decode cX12_of 102 = .ok (.ireturn, 1) := by decide +kernel
set_option maxRecDepth 20000 in
theorem kt_X12_of_0 (g : gx_T) : ∀ q ∈ k_X12_of_0, gx_E g gc_md RX12 cX12_of 3 (some .int) "of" q.1 q.2 := List.forall_mem_cons.mpr ⟨(gs_aload_n dX12_of_0 rfl), List.forall_mem_cons.mpr ⟨
  (gs_iload_n dX12_of_1 rfl), List.forall_mem_cons.mpr ⟨
  (gs_cv dX12_of_2 (fun q hq => by
      simp only [List.mem_cons, List.not_mem_nil, or_false] at hq
      subst hq
      exact Or.inl ⟨_, rfl, by decide, by decide +kernel, by decide +kernel, List.forall_mem_cons.mpr ⟨gx_mem 1248 (by decide +kernel) (by decide +kernel), List.forall_mem_cons.mpr ⟨gx_mem 1250 (by decide +kernel) (by decide +kernel), List.forall_mem_cons.mpr ⟨gx_mem 22 (by decide +kernel) (by decide +kernel), List.forall_mem_cons.mpr ⟨gx_mem 96 (by decide +kernel) (by decide +kernel), List.forall_mem_cons.mpr ⟨cw_1251, fun _ h => absurd h List.not_mem_nil⟩⟩⟩⟩⟩⟩)), List.forall_mem_cons.mpr ⟨
  (gs_if_ne dX12_of_5 rfl), List.forall_mem_cons.mpr ⟨
  (gs_sipush dX12_of_8 rfl), List.forall_mem_cons.mpr ⟨
  (gs_ri dX12_of_11), List.forall_mem_cons.mpr ⟨
  (gs_aload_n dX12_of_12 rfl), List.forall_mem_cons.mpr ⟨
  (gs_iload_n dX12_of_13 rfl), List.forall_mem_cons.mpr ⟨
  (gs_bipush dX12_of_14 rfl), List.forall_mem_cons.mpr ⟨
  (gs_bipush dX12_of_16 rfl), List.forall_mem_cons.mpr ⟨
  (gs_aload_n dX12_of_18 rfl), List.forall_mem_cons.mpr ⟨
  (gs_gf (ref := "GriefCranesModel") dX12_of_19 (gx_mem 998 (by decide +kernel) (by decide +kernel)) (Or.inl rfl) gf_12_1), List.forall_mem_cons.mpr ⟨
  (gs_iadd dX12_of_22), List.forall_mem_cons.mpr ⟨
  (gs_cv dX12_of_23 (fun q hq => by
      simp only [List.mem_cons, List.not_mem_nil, or_false] at hq
      subst hq
      exact Or.inl ⟨_, rfl, by decide, by decide +kernel, by decide +kernel, List.forall_mem_cons.mpr ⟨gx_mem 1240 (by decide +kernel) (by decide +kernel), List.forall_mem_cons.mpr ⟨gx_mem 1242 (by decide +kernel) (by decide +kernel), List.forall_mem_cons.mpr ⟨gx_mem 21 (by decide +kernel) (by decide +kernel), List.forall_mem_cons.mpr ⟨gx_mem 96 (by decide +kernel) (by decide +kernel), List.forall_mem_cons.mpr ⟨cw_1243, fun _ h => absurd h List.not_mem_nil⟩⟩⟩⟩⟩⟩)), List.forall_mem_cons.mpr ⟨
  (gs_if_eq dX12_of_26 rfl), List.forall_mem_cons.mpr ⟨
  (gs_aload_n dX12_of_29 rfl), List.forall_mem_cons.mpr ⟨
  (gs_iload_n dX12_of_30 rfl), List.forall_mem_cons.mpr ⟨
  (gs_iload_n dX12_of_31 rfl), List.forall_mem_cons.mpr ⟨
  (gs_bipush dX12_of_32 rfl), List.forall_mem_cons.mpr ⟨
  (gs_isub dX12_of_34), List.forall_mem_cons.mpr ⟨
  (gs_cv dX12_of_35 (fun q hq => by
      simp only [List.mem_cons, List.not_mem_nil, or_false] at hq
      subst hq
      exact Or.inl ⟨_, rfl, by decide, by decide +kernel, by decide +kernel, List.forall_mem_cons.mpr ⟨gx_mem 1340 (by decide +kernel) (by decide +kernel), List.forall_mem_cons.mpr ⟨gx_mem 1342 (by decide +kernel) (by decide +kernel), List.forall_mem_cons.mpr ⟨gx_mem 39 (by decide +kernel) (by decide +kernel), List.forall_mem_cons.mpr ⟨gx_mem 96 (by decide +kernel) (by decide +kernel), List.forall_mem_cons.mpr ⟨cw_1343, fun _ h => absurd h List.not_mem_nil⟩⟩⟩⟩⟩⟩)), List.forall_mem_cons.mpr ⟨
  (gs_ri dX12_of_38), List.forall_mem_cons.mpr ⟨
  (gs_iload_n dX12_of_39 rfl), List.forall_mem_cons.mpr ⟨
  (gs_tsw (lo := 0) (offs := [32, 39, 46, 53]) dX12_of_40 (by decide +kernel) (by decide +kernel)), List.forall_mem_cons.mpr ⟨
  (gs_aload_n dX12_of_72 rfl), List.forall_mem_cons.mpr ⟨
  (gs_gf (ref := "GriefCranesModel") dX12_of_73 (gx_mem 1001 (by decide +kernel) (by decide +kernel)) (Or.inl rfl) gf_12_4), List.forall_mem_cons.mpr ⟨
  (gs_iload_n dX12_of_76 rfl), List.forall_mem_cons.mpr ⟨
  (gs_iaload dX12_of_77), List.forall_mem_cons.mpr ⟨
  (gs_ri dX12_of_78), List.forall_mem_cons.mpr ⟨
  (gs_aload_n dX12_of_79 rfl), List.forall_mem_cons.mpr ⟨
  (gs_gf (ref := "GriefCranesModel") dX12_of_80 (gx_mem 1002 (by decide +kernel) (by decide +kernel)) (Or.inl rfl) gf_12_5), List.forall_mem_cons.mpr ⟨
  (gs_iload_n dX12_of_83 rfl), fun _ h => absurd h List.not_mem_nil⟩⟩⟩⟩⟩⟩⟩⟩⟩⟩⟩⟩⟩⟩⟩⟩⟩⟩⟩⟩⟩⟩⟩⟩⟩⟩⟩⟩⟩⟩⟩⟩
set_option maxRecDepth 20000 in
theorem kt_X12_of_1 (g : gx_T) : ∀ q ∈ k_X12_of_1, gx_E g gc_md RX12 cX12_of 3 (some .int) "of" q.1 q.2 := List.forall_mem_cons.mpr ⟨(gs_iaload dX12_of_84), List.forall_mem_cons.mpr ⟨
  (gs_ri dX12_of_85), List.forall_mem_cons.mpr ⟨
  (gs_aload_n dX12_of_86 rfl), List.forall_mem_cons.mpr ⟨
  (gs_gf (ref := "GriefCranesModel") dX12_of_87 (gx_mem 1003 (by decide +kernel) (by decide +kernel)) (Or.inl rfl) gf_12_6), List.forall_mem_cons.mpr ⟨
  (gs_iload_n dX12_of_90 rfl), List.forall_mem_cons.mpr ⟨
  (gs_iaload dX12_of_91), List.forall_mem_cons.mpr ⟨
  (gs_ri dX12_of_92), List.forall_mem_cons.mpr ⟨
  (gs_aload_n dX12_of_93 rfl), List.forall_mem_cons.mpr ⟨
  (gs_iload_n dX12_of_94 rfl), List.forall_mem_cons.mpr ⟨
  (gs_cv dX12_of_95 (fun q hq => by
      simp only [List.mem_cons, List.not_mem_nil, or_false] at hq
      subst hq
      exact Or.inl ⟨_, rfl, by decide, by decide +kernel, by decide +kernel, List.forall_mem_cons.mpr ⟨gx_mem 1372 (by decide +kernel) (by decide +kernel), List.forall_mem_cons.mpr ⟨gx_mem 1374 (by decide +kernel) (by decide +kernel), List.forall_mem_cons.mpr ⟨gx_mem 47 (by decide +kernel) (by decide +kernel), List.forall_mem_cons.mpr ⟨gx_mem 96 (by decide +kernel) (by decide +kernel), List.forall_mem_cons.mpr ⟨cw_1375, fun _ h => absurd h List.not_mem_nil⟩⟩⟩⟩⟩⟩)), List.forall_mem_cons.mpr ⟨
  (gs_ri dX12_of_98), List.forall_mem_cons.mpr ⟨
  (gs_sipush dX12_of_99 rfl), List.forall_mem_cons.mpr ⟨
  (gs_ri dX12_of_102), fun _ h => absurd h List.not_mem_nil⟩⟩⟩⟩⟩⟩⟩⟩⟩⟩⟩⟩⟩
theorem kt_X12_of (g : gx_T) : ∀ q ∈ k_X12_of, gx_E g gc_md RX12 cX12_of 3 (some .int) "of" q.1 q.2 := List.forall_mem_append.mpr ⟨kt_X12_of_0 g, kt_X12_of_1 g⟩
