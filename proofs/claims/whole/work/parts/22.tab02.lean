/-! decoded, and each instruction a row -/
set_option maxRecDepth 20000 in
theorem dX11_of_0 : decode cX11_of 0 = .ok (.aload_n 0, 1) := by decide +kernel
set_option maxRecDepth 20000 in
theorem dX11_of_1 : decode cX11_of 1 = .ok (.getfield 98, 3) := by decide +kernel
set_option maxRecDepth 20000 in
theorem dX11_of_4 : decode cX11_of 4 = .ok (.iload_n 1, 1) := by decide +kernel
set_option maxRecDepth 20000 in
theorem dX11_of_5 : decode cX11_of 5 = .ok (.invokevirtual 119, 3) := by decide +kernel
set_option maxRecDepth 20000 in
theorem dX11_of_8 : decode cX11_of 8 = .ok (.ifCond .ne 7, 3) := by decide +kernel
set_option maxRecDepth 20000 in
theorem dX11_of_11 : decode cX11_of 11 = .ok (.sipush (-10001), 3) := by decide +kernel
set_option maxRecDepth 20000 in
theorem dX11_of_14 : decode cX11_of 14 = .ok (.ireturn, 1) := by decide +kernel
set_option maxRecDepth 20000 in
theorem dX11_of_15 : decode cX11_of 15 = .ok (.iload_n 2, 1) := by decide +kernel
set_option maxRecDepth 20000 in
theorem dX11_of_16 : decode cX11_of 16 = .ok (.tableswitch 74 0 3 #[32, 42, 52, 62], 32) := by decide +kernel
set_option maxRecDepth 20000 in
theorem dX11_of_48 : decode cX11_of 48 = .ok (.aload_n 0, 1) := by decide +kernel
set_option maxRecDepth 20000 in
theorem dX11_of_49 : decode cX11_of 49 = .ok (.getfield 98, 3) := by decide +kernel
set_option maxRecDepth 20000 in
theorem dX11_of_52 : decode cX11_of 52 = .ok (.getfield 123, 3) := by decide +kernel
set_option maxRecDepth 20000 in
theorem dX11_of_55 : decode cX11_of 55 = .ok (.iload_n 1, 1) := by decide +kernel
set_option maxRecDepth 20000 in
theorem dX11_of_56 : decode cX11_of 56 = .ok (.iaload, 1) := by decide +kernel
set_option maxRecDepth 20000 in
theorem dX11_of_57 : decode cX11_of 57 = .ok (.ireturn, 1) := by decide +kernel
set_option maxRecDepth 20000 in
theorem dX11_of_58 : decode cX11_of 58 = .ok (.aload_n 0, 1) := by decide +kernel
set_option maxRecDepth 20000 in
theorem dX11_of_59 : decode cX11_of 59 = .ok (.getfield 98, 3) := by decide +kernel
set_option maxRecDepth 20000 in
theorem dX11_of_62 : decode cX11_of 62 = .ok (.getfield 127, 3) := by decide +kernel
set_option maxRecDepth 20000 in
theorem dX11_of_65 : decode cX11_of 65 = .ok (.iload_n 1, 1) := by decide +kernel
set_option maxRecDepth 20000 in
theorem dX11_of_66 : decode cX11_of 66 = .ok (.iaload, 1) := by decide +kernel
set_option maxRecDepth 20000 in
theorem dX11_of_67 : decode cX11_of 67 = .ok (.ireturn, 1) := by decide +kernel
set_option maxRecDepth 20000 in
theorem dX11_of_68 : decode cX11_of 68 = .ok (.aload_n 0, 1) := by decide +kernel
set_option maxRecDepth 20000 in
theorem dX11_of_69 : decode cX11_of 69 = .ok (.getfield 98, 3) := by decide +kernel
set_option maxRecDepth 20000 in
theorem dX11_of_72 : decode cX11_of 72 = .ok (.getfield 130, 3) := by decide +kernel
set_option maxRecDepth 20000 in
theorem dX11_of_75 : decode cX11_of 75 = .ok (.iload_n 1, 1) := by decide +kernel
set_option maxRecDepth 20000 in
theorem dX11_of_76 : decode cX11_of 76 = .ok (.iaload, 1) := by decide +kernel
set_option maxRecDepth 20000 in
theorem dX11_of_77 : decode cX11_of 77 = .ok (.ireturn, 1) := by decide +kernel
set_option maxRecDepth 20000 in
theorem dX11_of_78 : decode cX11_of 78 = .ok (.aload_n 0, 1) := by decide +kernel
set_option maxRecDepth 20000 in
theorem dX11_of_79 : decode cX11_of 79 = .ok (.getfield 98, 3) := by decide +kernel
set_option maxRecDepth 20000 in
theorem dX11_of_82 : decode cX11_of 82 = .ok (.iload_n 1, 1) := by decide +kernel
set_option maxRecDepth 20000 in
theorem dX11_of_83 : decode cX11_of 83 = .ok (.invokevirtual 133, 3) := by decide +kernel
set_option maxRecDepth 20000 in
theorem dX11_of_86 : decode cX11_of 86 = .ok (.invokestatic 137, 3) := by decide +kernel
set_option maxRecDepth 20000 in
theorem dX11_of_89 : decode cX11_of 89 = .ok (.ireturn, 1) := by decide +kernel
set_option maxRecDepth 20000 in
theorem dX11_of_90 : decode cX11_of 90 = .ok (.iload_n 2, 1) := by decide +kernel
set_option maxRecDepth 20000 in
theorem dX11_of_91 : decode cX11_of 91 = .ok (.bipush 10, 2) := by decide +kernel
set_option maxRecDepth 20000 in
theorem dX11_of_93 : decode cX11_of 93 = .ok (.isub, 1) := by decide +kernel
set_option maxRecDepth 20000 in
theorem dX11_of_94 : decode cX11_of 94 = .ok (.istore_n 3, 1) := by decide +kernel
set_option maxRecDepth 20000 in
theorem dX11_of_95 : decode cX11_of 95 = .ok (.aload_n 0, 1) := by decide +kernel
set_option maxRecDepth 20000 in
theorem dX11_of_96 : decode cX11_of 96 = .ok (.getfield 98, 3) := by decide +kernel
set_option maxRecDepth 20000 in
theorem dX11_of_99 : decode cX11_of 99 = .ok (.iload_n 3, 1) := by decide +kernel
set_option maxRecDepth 20000 in
theorem dX11_of_100 : decode cX11_of 100 = .ok (.invokevirtual 140, 3) := by decide +kernel
set_option maxRecDepth 20000 in
theorem dX11_of_103 : decode cX11_of 103 = .ok (.ifCond .eq 15, 3) := by decide +kernel
set_option maxRecDepth 20000 in
theorem dX11_of_106 : decode cX11_of 106 = .ok (.aload_n 0, 1) := by decide +kernel
set_option maxRecDepth 20000 in
theorem dX11_of_107 : decode cX11_of 107 = .ok (.getfield 98, 3) := by decide +kernel
set_option maxRecDepth 20000 in
theorem dX11_of_110 : decode cX11_of 110 = .ok (.iload_n 1, 1) := by decide +kernel
set_option maxRecDepth 20000 in
theorem dX11_of_111 : decode cX11_of 111 = .ok (.iload_n 3, 1) := by decide +kernel
set_option maxRecDepth 20000 in
theorem dX11_of_112 : decode cX11_of 112 = .ok (.invokevirtual 143, 3) := by decide +kernel
set_option maxRecDepth 20000 in
theorem dX11_of_115 : decode cX11_of 115 = .ok (.goto 6, 3) := by decide +kernel
set_option maxRecDepth 20000 in
theorem dX11_of_118 : decode cX11_of 118 = .ok (.sipush (-10001), 3) := by decide +kernel
set_option maxRecDepth 20000 in
theorem dX11_of_121 : decode cX11_of 121 = .ok (.ireturn, 1) := by decide +kernel
set_option maxRecDepth 20000 in
theorem kt_X11_of_0 (g : gx_T) : ∀ q ∈ k_X11_of_0, gx_E g gc_md RX11 cX11_of 4 (some .int) "of" q.1 q.2 := List.forall_mem_cons.mpr ⟨(gs_aload_n dX11_of_0 rfl), List.forall_mem_cons.mpr ⟨
  (gs_gf (ref := "GriefCranes") dX11_of_1 (gx_mem 371 (by decide +kernel) (by decide +kernel)) (Or.inl rfl) gf_11_0), List.forall_mem_cons.mpr ⟨
  (gs_iload_n dX11_of_4 rfl), List.forall_mem_cons.mpr ⟨
  (gs_cv dX11_of_5 (fun q hq => by
      simp only [List.mem_cons, List.not_mem_nil, or_false] at hq
      subst hq
      exact Or.inl ⟨_, rfl, by decide, by decide +kernel, by decide +kernel, List.forall_mem_cons.mpr ⟨gx_mem 438 (by decide +kernel) (by decide +kernel), List.forall_mem_cons.mpr ⟨gx_mem 439 (by decide +kernel) (by decide +kernel), List.forall_mem_cons.mpr ⟨gx_mem 440 (by decide +kernel) (by decide +kernel), List.forall_mem_cons.mpr ⟨gx_mem 95 (by decide +kernel) (by decide +kernel), List.forall_mem_cons.mpr ⟨cw_441, fun _ h => absurd h List.not_mem_nil⟩⟩⟩⟩⟩⟩)), List.forall_mem_cons.mpr ⟨
  (gs_if_ne dX11_of_8 rfl), List.forall_mem_cons.mpr ⟨
  (gs_sipush dX11_of_11 rfl), List.forall_mem_cons.mpr ⟨
  (gs_ri dX11_of_14), List.forall_mem_cons.mpr ⟨
  (gs_iload_n dX11_of_15 rfl), List.forall_mem_cons.mpr ⟨
  (gs_tsw (lo := 0) (offs := [32, 42, 52, 62]) dX11_of_16 (by decide +kernel) (by decide +kernel)), List.forall_mem_cons.mpr ⟨
  (gs_aload_n dX11_of_48 rfl), List.forall_mem_cons.mpr ⟨
  (gs_gf (ref := "GriefCranes") dX11_of_49 (gx_mem 371 (by decide +kernel) (by decide +kernel)) (Or.inl rfl) gf_11_0), List.forall_mem_cons.mpr ⟨
  (gs_gf (ref := "GriefCranes$Yard") dX11_of_52 (gx_mem 313 (by decide +kernel) (by decide +kernel)) (Or.inl rfl) gf_10_5), List.forall_mem_cons.mpr ⟨
  (gs_iload_n dX11_of_55 rfl), List.forall_mem_cons.mpr ⟨
  (gs_iaload dX11_of_56), List.forall_mem_cons.mpr ⟨
  (gs_ri dX11_of_57), List.forall_mem_cons.mpr ⟨
  (gs_aload_n dX11_of_58 rfl), List.forall_mem_cons.mpr ⟨
  (gs_gf (ref := "GriefCranes") dX11_of_59 (gx_mem 371 (by decide +kernel) (by decide +kernel)) (Or.inl rfl) gf_11_0), List.forall_mem_cons.mpr ⟨
  (gs_gf (ref := "GriefCranes$Yard") dX11_of_62 (gx_mem 317 (by decide +kernel) (by decide +kernel)) (Or.inl rfl) gf_10_6), List.forall_mem_cons.mpr ⟨
  (gs_iload_n dX11_of_65 rfl), List.forall_mem_cons.mpr ⟨
  (gs_iaload dX11_of_66), List.forall_mem_cons.mpr ⟨
  (gs_ri dX11_of_67), List.forall_mem_cons.mpr ⟨
  (gs_aload_n dX11_of_68 rfl), List.forall_mem_cons.mpr ⟨
  (gs_gf (ref := "GriefCranes") dX11_of_69 (gx_mem 371 (by decide +kernel) (by decide +kernel)) (Or.inl rfl) gf_11_0), List.forall_mem_cons.mpr ⟨
  (gs_gf (ref := "GriefCranes$Yard") dX11_of_72 (gx_mem 320 (by decide +kernel) (by decide +kernel)) (Or.inl rfl) gf_10_7), List.forall_mem_cons.mpr ⟨
  (gs_iload_n dX11_of_75 rfl), List.forall_mem_cons.mpr ⟨
  (gs_iaload dX11_of_76), List.forall_mem_cons.mpr ⟨
  (gs_ri dX11_of_77), List.forall_mem_cons.mpr ⟨
  (gs_aload_n dX11_of_78 rfl), List.forall_mem_cons.mpr ⟨
  (gs_gf (ref := "GriefCranes") dX11_of_79 (gx_mem 371 (by decide +kernel) (by decide +kernel)) (Or.inl rfl) gf_11_0), List.forall_mem_cons.mpr ⟨
  (gs_iload_n dX11_of_82 rfl), List.forall_mem_cons.mpr ⟨
  (gs_cv dX11_of_83 (fun q hq => by
      simp only [List.mem_cons, List.not_mem_nil, or_false] at hq
      subst hq
      exact Or.inl ⟨_, rfl, by decide, by decide +kernel, by decide +kernel, List.forall_mem_cons.mpr ⟨gx_mem 442 (by decide +kernel) (by decide +kernel), List.forall_mem_cons.mpr ⟨gx_mem 443 (by decide +kernel) (by decide +kernel), List.forall_mem_cons.mpr ⟨gx_mem 444 (by decide +kernel) (by decide +kernel), List.forall_mem_cons.mpr ⟨gx_mem 95 (by decide +kernel) (by decide +kernel), List.forall_mem_cons.mpr ⟨cw_445, fun _ h => absurd h List.not_mem_nil⟩⟩⟩⟩⟩⟩)), List.forall_mem_cons.mpr ⟨
  (gs_cs dX11_of_86 (md_99) (List.forall_mem_cons.mpr ⟨gx_mem 446 (by decide +kernel) (by decide +kernel), List.forall_mem_cons.mpr ⟨gx_mem 447 (by decide +kernel) (by decide +kernel), List.forall_mem_cons.mpr ⟨gx_mem 84 (by decide +kernel) (by decide +kernel), List.forall_mem_cons.mpr ⟨cw_448, fun _ h => absurd h List.not_mem_nil⟩⟩⟩⟩) (by decide +kernel) (by decide)), fun _ h => absurd h List.not_mem_nil⟩⟩⟩⟩⟩⟩⟩⟩⟩⟩⟩⟩⟩⟩⟩⟩⟩⟩⟩⟩⟩⟩⟩⟩⟩⟩⟩⟩⟩⟩⟩⟩
set_option maxRecDepth 20000 in
theorem kt_X11_of_1 (g : gx_T) : ∀ q ∈ k_X11_of_1, gx_E g gc_md RX11 cX11_of 4 (some .int) "of" q.1 q.2 := List.forall_mem_cons.mpr ⟨(gs_ri dX11_of_89), List.forall_mem_cons.mpr ⟨
  (gs_iload_n dX11_of_90 rfl), List.forall_mem_cons.mpr ⟨
  (gs_bipush dX11_of_91 rfl), List.forall_mem_cons.mpr ⟨
  (gs_isub dX11_of_93), List.forall_mem_cons.mpr ⟨
  (gs_istore_n dX11_of_94 rfl), List.forall_mem_cons.mpr ⟨
  (gs_aload_n dX11_of_95 rfl), List.forall_mem_cons.mpr ⟨
  (gs_gf (ref := "GriefCranes") dX11_of_96 (gx_mem 371 (by decide +kernel) (by decide +kernel)) (Or.inl rfl) gf_11_0), List.forall_mem_cons.mpr ⟨
  (gs_iload_n dX11_of_99 rfl), List.forall_mem_cons.mpr ⟨
  (gs_cv dX11_of_100 (fun q hq => by
      simp only [List.mem_cons, List.not_mem_nil, or_false] at hq
      subst hq
      exact Or.inl ⟨_, rfl, by decide, by decide +kernel, by decide +kernel, List.forall_mem_cons.mpr ⟨gx_mem 449 (by decide +kernel) (by decide +kernel), List.forall_mem_cons.mpr ⟨gx_mem 450 (by decide +kernel) (by decide +kernel), List.forall_mem_cons.mpr ⟨gx_mem 451 (by decide +kernel) (by decide +kernel), List.forall_mem_cons.mpr ⟨gx_mem 95 (by decide +kernel) (by decide +kernel), List.forall_mem_cons.mpr ⟨cw_452, fun _ h => absurd h List.not_mem_nil⟩⟩⟩⟩⟩⟩)), List.forall_mem_cons.mpr ⟨
  (gs_if_eq dX11_of_103 rfl), List.forall_mem_cons.mpr ⟨
  (gs_aload_n dX11_of_106 rfl), List.forall_mem_cons.mpr ⟨
  (gs_gf (ref := "GriefCranes") dX11_of_107 (gx_mem 371 (by decide +kernel) (by decide +kernel)) (Or.inl rfl) gf_11_0), List.forall_mem_cons.mpr ⟨
  (gs_iload_n dX11_of_110 rfl), List.forall_mem_cons.mpr ⟨
  (gs_iload_n dX11_of_111 rfl), List.forall_mem_cons.mpr ⟨
  (gs_cv dX11_of_112 (fun q hq => by
      simp only [List.mem_cons, List.not_mem_nil, or_false] at hq
      subst hq
      exact Or.inl ⟨_, rfl, by decide, by decide +kernel, by decide +kernel, List.forall_mem_cons.mpr ⟨gx_mem 453 (by decide +kernel) (by decide +kernel), List.forall_mem_cons.mpr ⟨gx_mem 454 (by decide +kernel) (by decide +kernel), List.forall_mem_cons.mpr ⟨gx_mem 455 (by decide +kernel) (by decide +kernel), List.forall_mem_cons.mpr ⟨gx_mem 95 (by decide +kernel) (by decide +kernel), List.forall_mem_cons.mpr ⟨cw_456, fun _ h => absurd h List.not_mem_nil⟩⟩⟩⟩⟩⟩)), List.forall_mem_cons.mpr ⟨
  (gs_goto dX11_of_115 rfl), List.forall_mem_cons.mpr ⟨
  (gs_sipush dX11_of_118 rfl), List.forall_mem_cons.mpr ⟨
  (gs_ri dX11_of_121), fun _ h => absurd h List.not_mem_nil⟩⟩⟩⟩⟩⟩⟩⟩⟩⟩⟩⟩⟩⟩⟩⟩⟩⟩
theorem kt_X11_of (g : gx_T) : ∀ q ∈ k_X11_of, gx_E g gc_md RX11 cX11_of 4 (some .int) "of" q.1 q.2 := List.forall_mem_append.mpr ⟨kt_X11_of_0 g, kt_X11_of_1 g⟩
set_option maxRecDepth 20000 in
theorem dX11_thing_0 : decode cX11_thing 0 = .ok (.iload_n 2, 1) := by decide +kernel
set_option maxRecDepth 20000 in
theorem dX11_thing_1 : decode cX11_thing 1 = .ok (.iconst (-1), 1) := by decide +kernel
set_option maxRecDepth 20000 in
theorem dX11_thing_2 : decode cX11_thing 2 = .ok (.if_icmp .eq 16, 3) := by decide +kernel
set_option maxRecDepth 20000 in
theorem dX11_thing_5 : decode cX11_thing 5 = .ok (.aload_n 0, 1) := by decide +kernel
set_option maxRecDepth 20000 in
theorem dX11_thing_6 : decode cX11_thing 6 = .ok (.getfield 98, 3) := by decide +kernel
set_option maxRecDepth 20000 in
theorem dX11_thing_9 : decode cX11_thing 9 = .ok (.iload_n 2, 1) := by decide +kernel
set_option maxRecDepth 20000 in
theorem dX11_thing_10 : decode cX11_thing 10 = .ok (.invokevirtual 119, 3) := by decide +kernel
set_option maxRecDepth 20000 in
theorem dX11_thing_13 : decode cX11_thing 13 = .ok (.ifCond .ne 5, 3) := by decide +kernel
set_option maxRecDepth 20000 in
theorem dX11_thing_16 : decode cX11_thing 16 = .ok (.iconst (-1), 1) := by decide +kernel
set_option maxRecDepth 20000 in
theorem dX11_thing_17 : decode cX11_thing 17 = .ok (.ireturn, 1) := by decide +kernel
set_option maxRecDepth 20000 in
theorem dX11_thing_18 : decode cX11_thing 18 = .ok (.iload_n 1, 1) := by decide +kernel
set_option maxRecDepth 20000 in
theorem dX11_thing_19 : decode cX11_thing 19 = .ok (.bipush 99, 2) := by decide +kernel
set_option maxRecDepth 20000 in
theorem dX11_thing_21 : decode cX11_thing 21 = .ok (.invokestatic 108, 3) := by decide +kernel
set_option maxRecDepth 20000 in
theorem dX11_thing_24 : decode cX11_thing 24 = .ok (.ifCond .ne 6, 3) := by decide +kernel
set_option maxRecDepth 20000 in
theorem dX11_thing_27 : decode cX11_thing 27 = .ok (.bipush (-2), 2) := by decide +kernel
set_option maxRecDepth 20000 in
theorem dX11_thing_29 : decode cX11_thing 29 = .ok (.ireturn, 1) := by decide +kernel
set_option maxRecDepth 20000 in
theorem dX11_thing_30 : decode cX11_thing 30 = .ok (.aload_n 0, 1) := by decide +kernel
set_option maxRecDepth 20000 in
theorem dX11_thing_31 : decode cX11_thing 31 = .ok (.getfield 98, 3) := by decide +kernel
set_option maxRecDepth 20000 in
theorem dX11_thing_34 : decode cX11_thing 34 = .ok (.getfield 146, 3) := by decide +kernel
set_option maxRecDepth 20000 in
theorem dX11_thing_37 : decode cX11_thing 37 = .ok (.bipush 8, 2) := by decide +kernel
set_option maxRecDepth 20000 in
theorem dX11_thing_39 : decode cX11_thing 39 = .ok (.if_icmp .lt 6, 3) := by decide +kernel
set_option maxRecDepth 20000 in
theorem dX11_thing_42 : decode cX11_thing 42 = .ok (.bipush (-4), 2) := by decide +kernel
set_option maxRecDepth 20000 in
theorem dX11_thing_44 : decode cX11_thing 44 = .ok (.ireturn, 1) := by decide +kernel
set_option maxRecDepth 20000 in
theorem dX11_thing_45 : decode cX11_thing 45 = .ok (.aload_n 0, 1) := by decide +kernel
set_option maxRecDepth 20000 in
theorem dX11_thing_46 : decode cX11_thing 46 = .ok (.getfield 98, 3) := by decide +kernel
set_option maxRecDepth 20000 in
theorem dX11_thing_49 : decode cX11_thing 49 = .ok (.iload_n 1, 1) := by decide +kernel
set_option maxRecDepth 20000 in
theorem dX11_thing_50 : decode cX11_thing 50 = .ok (.iload_n 2, 1) := by decide +kernel
set_option maxRecDepth 20000 in
theorem dX11_thing_51 : decode cX11_thing 51 = .ok (.invokevirtual 149, 3) := by decide +kernel
set_option maxRecDepth 20000 in
theorem dX11_thing_54 : decode cX11_thing 54 = .ok (.ireturn, 1) := by decide +kernel
set_option maxRecDepth 20000 in
theorem kt_X11_thing_0 (g : gx_T) : ∀ q ∈ k_X11_thing_0, gx_E g gc_md RX11 cX11_thing 3 (some .int) "thing" q.1 q.2 := List.forall_mem_cons.mpr ⟨(gs_iload_n dX11_thing_0 rfl), List.forall_mem_cons.mpr ⟨
  (gs_iconst dX11_thing_1 rfl), List.forall_mem_cons.mpr ⟨
  (gs_icmp_eq dX11_thing_2 rfl), List.forall_mem_cons.mpr ⟨
  (gs_aload_n dX11_thing_5 rfl), List.forall_mem_cons.mpr ⟨
  (gs_gf (ref := "GriefCranes") dX11_thing_6 (gx_mem 371 (by decide +kernel) (by decide +kernel)) (Or.inl rfl) gf_11_0), List.forall_mem_cons.mpr ⟨
  (gs_iload_n dX11_thing_9 rfl), List.forall_mem_cons.mpr ⟨
  (gs_cv dX11_thing_10 (fun q hq => by
      simp only [List.mem_cons, List.not_mem_nil, or_false] at hq
      subst hq
      exact Or.inl ⟨_, rfl, by decide, by decide +kernel, by decide +kernel, List.forall_mem_cons.mpr ⟨gx_mem 438 (by decide +kernel) (by decide +kernel), List.forall_mem_cons.mpr ⟨gx_mem 439 (by decide +kernel) (by decide +kernel), List.forall_mem_cons.mpr ⟨gx_mem 440 (by decide +kernel) (by decide +kernel), List.forall_mem_cons.mpr ⟨gx_mem 95 (by decide +kernel) (by decide +kernel), List.forall_mem_cons.mpr ⟨cw_441, fun _ h => absurd h List.not_mem_nil⟩⟩⟩⟩⟩⟩)), List.forall_mem_cons.mpr ⟨
  (gs_if_ne dX11_thing_13 rfl), List.forall_mem_cons.mpr ⟨
  (gs_iconst dX11_thing_16 rfl), List.forall_mem_cons.mpr ⟨
  (gs_ri dX11_thing_17), List.forall_mem_cons.mpr ⟨
  (gs_iload_n dX11_thing_18 rfl), List.forall_mem_cons.mpr ⟨
  (gs_bipush dX11_thing_19 rfl), List.forall_mem_cons.mpr ⟨
  (gs_cs dX11_thing_21 (md_98) (List.forall_mem_cons.mpr ⟨gx_mem 427 (by decide +kernel) (by decide +kernel), List.forall_mem_cons.mpr ⟨gx_mem 428 (by decide +kernel) (by decide +kernel), List.forall_mem_cons.mpr ⟨gx_mem 84 (by decide +kernel) (by decide +kernel), List.forall_mem_cons.mpr ⟨cw_429, fun _ h => absurd h List.not_mem_nil⟩⟩⟩⟩) (by decide +kernel) (by decide)), List.forall_mem_cons.mpr ⟨
  (gs_if_ne dX11_thing_24 rfl), List.forall_mem_cons.mpr ⟨
  (gs_bipush dX11_thing_27 rfl), List.forall_mem_cons.mpr ⟨
  (gs_ri dX11_thing_29), List.forall_mem_cons.mpr ⟨
  (gs_aload_n dX11_thing_30 rfl), List.forall_mem_cons.mpr ⟨
  (gs_gf (ref := "GriefCranes") dX11_thing_31 (gx_mem 371 (by decide +kernel) (by decide +kernel)) (Or.inl rfl) gf_11_0), List.forall_mem_cons.mpr ⟨
  (gs_gf (ref := "GriefCranes$Yard") dX11_thing_34 (gx_mem 325 (by decide +kernel) (by decide +kernel)) (Or.inl rfl) gf_10_9), List.forall_mem_cons.mpr ⟨
  (gs_bipush dX11_thing_37 rfl), List.forall_mem_cons.mpr ⟨
  (gs_icmp_lt dX11_thing_39 rfl), List.forall_mem_cons.mpr ⟨
  (gs_bipush dX11_thing_42 rfl), List.forall_mem_cons.mpr ⟨
  (gs_ri dX11_thing_44), List.forall_mem_cons.mpr ⟨
  (gs_aload_n dX11_thing_45 rfl), List.forall_mem_cons.mpr ⟨
  (gs_gf (ref := "GriefCranes") dX11_thing_46 (gx_mem 371 (by decide +kernel) (by decide +kernel)) (Or.inl rfl) gf_11_0), List.forall_mem_cons.mpr ⟨
  (gs_iload_n dX11_thing_49 rfl), List.forall_mem_cons.mpr ⟨
  (gs_iload_n dX11_thing_50 rfl), List.forall_mem_cons.mpr ⟨
  (gs_cv dX11_thing_51 (fun q hq => by
      simp only [List.mem_cons, List.not_mem_nil, or_false] at hq
      subst hq
      exact Or.inl ⟨_, rfl, by decide, by decide +kernel, by decide +kernel, List.forall_mem_cons.mpr ⟨gx_mem 498 (by decide +kernel) (by decide +kernel), List.forall_mem_cons.mpr ⟨gx_mem 499 (by decide +kernel) (by decide +kernel), List.forall_mem_cons.mpr ⟨gx_mem 500 (by decide +kernel) (by decide +kernel), List.forall_mem_cons.mpr ⟨gx_mem 95 (by decide +kernel) (by decide +kernel), List.forall_mem_cons.mpr ⟨cw_501, fun _ h => absurd h List.not_mem_nil⟩⟩⟩⟩⟩⟩)), List.forall_mem_cons.mpr ⟨
  (gs_ri dX11_thing_54), fun _ h => absurd h List.not_mem_nil⟩⟩⟩⟩⟩⟩⟩⟩⟩⟩⟩⟩⟩⟩⟩⟩⟩⟩⟩⟩⟩⟩⟩⟩⟩⟩⟩⟩⟩
theorem kt_X11_thing (g : gx_T) : ∀ q ∈ k_X11_thing, gx_E g gc_md RX11 cX11_thing 3 (some .int) "thing" q.1 q.2 := kt_X11_thing_0 g
set_option maxRecDepth 20000 in
theorem dX11_load_0 : decode cX11_load 0 = .ok (.aload_n 0, 1) := by decide +kernel
set_option maxRecDepth 20000 in
theorem dX11_load_1 : decode cX11_load 1 = .ok (.getfield 98, 3) := by decide +kernel
set_option maxRecDepth 20000 in
theorem dX11_load_4 : decode cX11_load 4 = .ok (.iload_n 1, 1) := by decide +kernel
set_option maxRecDepth 20000 in
theorem dX11_load_5 : decode cX11_load 5 = .ok (.invokevirtual 140, 3) := by decide +kernel
set_option maxRecDepth 20000 in
theorem dX11_load_8 : decode cX11_load 8 = .ok (.ifCond .ne 5, 3) := by decide +kernel
set_option maxRecDepth 20000 in
theorem dX11_load_11 : decode cX11_load 11 = .ok (.iconst (-1), 1) := by decide +kernel
set_option maxRecDepth 20000 in
theorem dX11_load_12 : decode cX11_load 12 = .ok (.ireturn, 1) := by decide +kernel
set_option maxRecDepth 20000 in
theorem dX11_load_13 : decode cX11_load 13 = .ok (.iload_n 2, 1) := by decide +kernel
set_option maxRecDepth 20000 in
theorem dX11_load_14 : decode cX11_load 14 = .ok (.tableswitch 142 0 8 #[50, 60, 73, 83, 93, 103, 120, 126, 134], 50) := by decide +kernel
set_option maxRecDepth 20000 in
theorem dX11_load_64 : decode cX11_load 64 = .ok (.aload_n 0, 1) := by decide +kernel
set_option maxRecDepth 20000 in
theorem dX11_load_65 : decode cX11_load 65 = .ok (.getfield 98, 3) := by decide +kernel
set_option maxRecDepth 20000 in
theorem dX11_load_68 : decode cX11_load 68 = .ok (.getfield 152, 3) := by decide +kernel
set_option maxRecDepth 20000 in
theorem dX11_load_71 : decode cX11_load 71 = .ok (.iload_n 1, 1) := by decide +kernel
set_option maxRecDepth 20000 in
theorem dX11_load_72 : decode cX11_load 72 = .ok (.iaload, 1) := by decide +kernel
set_option maxRecDepth 20000 in
theorem dX11_load_73 : decode cX11_load 73 = .ok (.ireturn, 1) := by decide +kernel
set_option maxRecDepth 20000 in
theorem dX11_load_74 : decode cX11_load 74 = .ok (.aload_n 0, 1) := by decide +kernel
set_option maxRecDepth 20000 in
theorem dX11_load_75 : decode cX11_load 75 = .ok (.getfield 98, 3) := by decide +kernel
set_option maxRecDepth 20000 in
theorem dX11_load_78 : decode cX11_load 78 = .ok (.getfield 155, 3) := by decide +kernel
set_option maxRecDepth 20000 in
theorem dX11_load_81 : decode cX11_load 81 = .ok (.iload_n 1, 1) := by decide +kernel
set_option maxRecDepth 20000 in
theorem dX11_load_82 : decode cX11_load 82 = .ok (.iaload, 1) := by decide +kernel
set_option maxRecDepth 20000 in
theorem dX11_load_83 : decode cX11_load 83 = .ok (.invokestatic 137, 3) := by decide +kernel
set_option maxRecDepth 20000 in
theorem dX11_load_86 : decode cX11_load 86 = .ok (.ireturn, 1) := by decide +kernel
set_option maxRecDepth 20000 in
theorem dX11_load_87 : decode cX11_load 87 = .ok (.aload_n 0, 1) := by decide +kernel
set_option maxRecDepth 20000 in
theorem dX11_load_88 : decode cX11_load 88 = .ok (.getfield 98, 3) := by decide +kernel
set_option maxRecDepth 20000 in
theorem dX11_load_91 : decode cX11_load 91 = .ok (.getfield 158, 3) := by decide +kernel
set_option maxRecDepth 20000 in
theorem dX11_load_94 : decode cX11_load 94 = .ok (.iload_n 1, 1) := by decide +kernel
set_option maxRecDepth 20000 in
theorem dX11_load_95 : decode cX11_load 95 = .ok (.iaload, 1) := by decide +kernel
set_option maxRecDepth 20000 in
theorem dX11_load_96 : decode cX11_load 96 = .ok (.ireturn, 1) := by decide +kernel
set_option maxRecDepth 20000 in
theorem dX11_load_97 : decode cX11_load 97 = .ok (.aload_n 0, 1) := by decide +kernel
set_option maxRecDepth 20000 in
theorem dX11_load_98 : decode cX11_load 98 = .ok (.getfield 98, 3) := by decide +kernel
set_option maxRecDepth 20000 in
theorem dX11_load_101 : decode cX11_load 101 = .ok (.getfield 161, 3) := by decide +kernel
set_option maxRecDepth 20000 in
theorem dX11_load_104 : decode cX11_load 104 = .ok (.iload_n 1, 1) := by decide +kernel
set_option maxRecDepth 20000 in
theorem dX11_load_105 : decode cX11_load 105 = .ok (.iaload, 1) := by decide +kernel
set_option maxRecDepth 20000 in
theorem dX11_load_106 : decode cX11_load 106 = .ok (.ireturn, 1) := by decide +kernel
set_option maxRecDepth 20000 in
theorem dX11_load_107 : decode cX11_load 107 = .ok (.aload_n 0, 1) := by decide +kernel
set_option maxRecDepth 20000 in
theorem dX11_load_108 : decode cX11_load 108 = .ok (.getfield 98, 3) := by decide +kernel
set_option maxRecDepth 20000 in
theorem dX11_load_111 : decode cX11_load 111 = .ok (.getfield 164, 3) := by decide +kernel
set_option maxRecDepth 20000 in
theorem dX11_load_114 : decode cX11_load 114 = .ok (.iload_n 1, 1) := by decide +kernel
set_option maxRecDepth 20000 in
theorem dX11_load_115 : decode cX11_load 115 = .ok (.iaload, 1) := by decide +kernel
set_option maxRecDepth 20000 in
theorem dX11_load_116 : decode cX11_load 116 = .ok (.ireturn, 1) := by decide +kernel
set_option maxRecDepth 20000 in
theorem dX11_load_117 : decode cX11_load 117 = .ok (.aload_n 0, 1) := by decide +kernel
set_option maxRecDepth 20000 in
theorem dX11_load_118 : decode cX11_load 118 = .ok (.getfield 102, 3) := by decide +kernel
set_option maxRecDepth 20000 in
theorem dX11_load_121 : decode cX11_load 121 = .ok (.aload_n 0, 1) := by decide +kernel
set_option maxRecDepth 20000 in
theorem dX11_load_122 : decode cX11_load 122 = .ok (.getfield 98, 3) := by decide +kernel
set_option maxRecDepth 20000 in
theorem dX11_load_125 : decode cX11_load 125 = .ok (.invokevirtual 167, 3) := by decide +kernel
set_option maxRecDepth 20000 in
theorem dX11_load_128 : decode cX11_load 128 = .ok (.aload_n 0, 1) := by decide +kernel
set_option maxRecDepth 20000 in
theorem dX11_load_129 : decode cX11_load 129 = .ok (.iload_n 1, 1) := by decide +kernel
set_option maxRecDepth 20000 in
theorem dX11_load_130 : decode cX11_load 130 = .ok (.invokevirtual 171, 3) := by decide +kernel
set_option maxRecDepth 20000 in
theorem dX11_load_133 : decode cX11_load 133 = .ok (.ireturn, 1) := by decide +kernel
set_option maxRecDepth 20000 in
theorem dX11_load_134 : decode cX11_load 134 = .ok (.aload_n 0, 1) := by decide +kernel
set_option maxRecDepth 20000 in
theorem dX11_load_135 : decode cX11_load 135 = .ok (.iload_n 1, 1) := by decide +kernel
set_option maxRecDepth 20000 in
theorem dX11_load_136 : decode cX11_load 136 = .ok (.invokevirtual 174, 3) := by decide +kernel
set_option maxRecDepth 20000 in
theorem dX11_load_139 : decode cX11_load 139 = .ok (.ireturn, 1) := by decide +kernel
set_option maxRecDepth 20000 in
theorem dX11_load_140 : decode cX11_load 140 = .ok (.aload_n 0, 1) := by decide +kernel
set_option maxRecDepth 20000 in
theorem dX11_load_141 : decode cX11_load 141 = .ok (.iload_n 1, 1) := by decide +kernel
set_option maxRecDepth 20000 in
theorem dX11_load_142 : decode cX11_load 142 = .ok (.iconst (-1), 1) := by decide +kernel
set_option maxRecDepth 20000 in
theorem dX11_load_143 : decode cX11_load 143 = .ok (.iconst 0, 1) := by decide +kernel
set_option maxRecDepth 20000 in
theorem dX11_load_144 : decode cX11_load 144 = .ok (.invokevirtual 177, 3) := by decide +kernel
set_option maxRecDepth 20000 in
theorem dX11_load_147 : decode cX11_load 147 = .ok (.ireturn, 1) := by decide +kernel
set_option maxRecDepth 20000 in
theorem dX11_load_148 : decode cX11_load 148 = .ok (.aload_n 0, 1) := by decide +kernel
set_option maxRecDepth 20000 in
theorem dX11_load_149 : decode cX11_load 149 = .ok (.iload_n 1, 1) := by decide +kernel
set_option maxRecDepth 20000 in
theorem dX11_load_150 : decode cX11_load 150 = .ok (.iconst (-1), 1) := by decide +kernel
set_option maxRecDepth 20000 in
theorem dX11_load_151 : decode cX11_load 151 = .ok (.iconst 1, 1) := by decide +kernel
set_option maxRecDepth 20000 in
theorem dX11_load_152 : decode cX11_load 152 = .ok (.invokevirtual 177, 3) := by decide +kernel
set_option maxRecDepth 20000 in
theorem dX11_load_155 : decode cX11_load 155 = .ok (.ireturn, 1) := by decide +kernel
set_option maxRecDepth 20000 in
theorem dX11_load_156 : decode cX11_load 156 = .ok (.iconst (-1), 1) := by decide +kernel
set_option maxRecDepth 20000 in
theorem dX11_load_157 : decode cX11_load 157 = .ok (.ireturn, 1) := by decide +kernel
set_option maxRecDepth 20000 in
theorem kt_X11_load_0 (g : gx_T) : ∀ q ∈ k_X11_load_0, gx_E g gc_md RX11 cX11_load 3 (some .int) "load" q.1 q.2 := List.forall_mem_cons.mpr ⟨(gs_aload_n dX11_load_0 rfl), List.forall_mem_cons.mpr ⟨
  (gs_gf (ref := "GriefCranes") dX11_load_1 (gx_mem 371 (by decide +kernel) (by decide +kernel)) (Or.inl rfl) gf_11_0), List.forall_mem_cons.mpr ⟨
  (gs_iload_n dX11_load_4 rfl), List.forall_mem_cons.mpr ⟨
  (gs_cv dX11_load_5 (fun q hq => by
      simp only [List.mem_cons, List.not_mem_nil, or_false] at hq
      subst hq
      exact Or.inl ⟨_, rfl, by decide, by decide +kernel, by decide +kernel, List.forall_mem_cons.mpr ⟨gx_mem 449 (by decide +kernel) (by decide +kernel), List.forall_mem_cons.mpr ⟨gx_mem 450 (by decide +kernel) (by decide +kernel), List.forall_mem_cons.mpr ⟨gx_mem 451 (by decide +kernel) (by decide +kernel), List.forall_mem_cons.mpr ⟨gx_mem 95 (by decide +kernel) (by decide +kernel), List.forall_mem_cons.mpr ⟨cw_452, fun _ h => absurd h List.not_mem_nil⟩⟩⟩⟩⟩⟩)), List.forall_mem_cons.mpr ⟨
  (gs_if_ne dX11_load_8 rfl), List.forall_mem_cons.mpr ⟨
  (gs_iconst dX11_load_11 rfl), List.forall_mem_cons.mpr ⟨
  (gs_ri dX11_load_12), List.forall_mem_cons.mpr ⟨
  (gs_iload_n dX11_load_13 rfl), List.forall_mem_cons.mpr ⟨
  (gs_tsw (lo := 0) (offs := [50, 60, 73, 83, 93, 103, 120, 126, 134]) dX11_load_14 (by decide +kernel) (by decide +kernel)), List.forall_mem_cons.mpr ⟨
  (gs_aload_n dX11_load_64 rfl), List.forall_mem_cons.mpr ⟨
  (gs_gf (ref := "GriefCranes") dX11_load_65 (gx_mem 371 (by decide +kernel) (by decide +kernel)) (Or.inl rfl) gf_11_0), List.forall_mem_cons.mpr ⟨
  (gs_gf (ref := "GriefCranes$Yard") dX11_load_68 (gx_mem 328 (by decide +kernel) (by decide +kernel)) (Or.inl rfl) gf_10_10), List.forall_mem_cons.mpr ⟨
  (gs_iload_n dX11_load_71 rfl), List.forall_mem_cons.mpr ⟨
  (gs_iaload dX11_load_72), List.forall_mem_cons.mpr ⟨
  (gs_ri dX11_load_73), List.forall_mem_cons.mpr ⟨
  (gs_aload_n dX11_load_74 rfl), List.forall_mem_cons.mpr ⟨
  (gs_gf (ref := "GriefCranes") dX11_load_75 (gx_mem 371 (by decide +kernel) (by decide +kernel)) (Or.inl rfl) gf_11_0), List.forall_mem_cons.mpr ⟨
  (gs_gf (ref := "GriefCranes$Yard") dX11_load_78 (gx_mem 330 (by decide +kernel) (by decide +kernel)) (Or.inl rfl) gf_10_11), List.forall_mem_cons.mpr ⟨
  (gs_iload_n dX11_load_81 rfl), List.forall_mem_cons.mpr ⟨
  (gs_iaload dX11_load_82), List.forall_mem_cons.mpr ⟨
  (gs_cs dX11_load_83 (md_99) (List.forall_mem_cons.mpr ⟨gx_mem 446 (by decide +kernel) (by decide +kernel), List.forall_mem_cons.mpr ⟨gx_mem 447 (by decide +kernel) (by decide +kernel), List.forall_mem_cons.mpr ⟨gx_mem 84 (by decide +kernel) (by decide +kernel), List.forall_mem_cons.mpr ⟨cw_448, fun _ h => absurd h List.not_mem_nil⟩⟩⟩⟩) (by decide +kernel) (by decide)), List.forall_mem_cons.mpr ⟨
  (gs_ri dX11_load_86), List.forall_mem_cons.mpr ⟨
  (gs_aload_n dX11_load_87 rfl), List.forall_mem_cons.mpr ⟨
  (gs_gf (ref := "GriefCranes") dX11_load_88 (gx_mem 371 (by decide +kernel) (by decide +kernel)) (Or.inl rfl) gf_11_0), List.forall_mem_cons.mpr ⟨
  (gs_gf (ref := "GriefCranes$Yard") dX11_load_91 (gx_mem 332 (by decide +kernel) (by decide +kernel)) (Or.inl rfl) gf_10_12), List.forall_mem_cons.mpr ⟨
  (gs_iload_n dX11_load_94 rfl), List.forall_mem_cons.mpr ⟨
  (gs_iaload dX11_load_95), List.forall_mem_cons.mpr ⟨
  (gs_ri dX11_load_96), List.forall_mem_cons.mpr ⟨
  (gs_aload_n dX11_load_97 rfl), List.forall_mem_cons.mpr ⟨
  (gs_gf (ref := "GriefCranes") dX11_load_98 (gx_mem 371 (by decide +kernel) (by decide +kernel)) (Or.inl rfl) gf_11_0), List.forall_mem_cons.mpr ⟨
  (gs_gf (ref := "GriefCranes$Yard") dX11_load_101 (gx_mem 334 (by decide +kernel) (by decide +kernel)) (Or.inl rfl) gf_10_13), List.forall_mem_cons.mpr ⟨
  (gs_iload_n dX11_load_104 rfl), fun _ h => absurd h List.not_mem_nil⟩⟩⟩⟩⟩⟩⟩⟩⟩⟩⟩⟩⟩⟩⟩⟩⟩⟩⟩⟩⟩⟩⟩⟩⟩⟩⟩⟩⟩⟩⟩⟩
set_option maxRecDepth 20000 in
theorem kt_X11_load_1 (g : gx_T) : ∀ q ∈ k_X11_load_1, gx_E g gc_md RX11 cX11_load 3 (some .int) "load" q.1 q.2 := List.forall_mem_cons.mpr ⟨(gs_iaload dX11_load_105), List.forall_mem_cons.mpr ⟨
  (gs_ri dX11_load_106), List.forall_mem_cons.mpr ⟨
  (gs_aload_n dX11_load_107 rfl), List.forall_mem_cons.mpr ⟨
  (gs_gf (ref := "GriefCranes") dX11_load_108 (gx_mem 371 (by decide +kernel) (by decide +kernel)) (Or.inl rfl) gf_11_0), List.forall_mem_cons.mpr ⟨
  (gs_gf (ref := "GriefCranes$Yard") dX11_load_111 (gx_mem 336 (by decide +kernel) (by decide +kernel)) (Or.inl rfl) gf_10_14), List.forall_mem_cons.mpr ⟨
  (gs_iload_n dX11_load_114 rfl), List.forall_mem_cons.mpr ⟨
  (gs_iaload dX11_load_115), List.forall_mem_cons.mpr ⟨
  (gs_ri dX11_load_116), List.forall_mem_cons.mpr ⟨
  (gs_aload_n dX11_load_117 rfl), List.forall_mem_cons.mpr ⟨
  (gs_gf (ref := "GriefCranes") dX11_load_118 (gx_mem 372 (by decide +kernel) (by decide +kernel)) (Or.inl rfl) gf_11_1), List.forall_mem_cons.mpr ⟨
  (gs_aload_n dX11_load_121 rfl), List.forall_mem_cons.mpr ⟨
  (gs_gf (ref := "GriefCranes") dX11_load_122 (gx_mem 371 (by decide +kernel) (by decide +kernel)) (Or.inl rfl) gf_11_0), List.forall_mem_cons.mpr ⟨
  (gs_cv dX11_load_125 (fun q hq => by
      simp only [List.mem_cons, List.not_mem_nil, or_false] at hq
      subst hq
      exact Or.inl ⟨_, rfl, by decide, by decide +kernel, by decide +kernel, List.forall_mem_cons.mpr ⟨gx_mem 510 (by decide +kernel) (by decide +kernel), List.forall_mem_cons.mpr ⟨gx_mem 511 (by decide +kernel) (by decide +kernel), List.forall_mem_cons.mpr ⟨gx_mem 512 (by decide +kernel) (by decide +kernel), List.forall_mem_cons.mpr ⟨gx_mem 95 (by decide +kernel) (by decide +kernel), List.forall_mem_cons.mpr ⟨cw_513, fun _ h => absurd h List.not_mem_nil⟩⟩⟩⟩⟩⟩)), List.forall_mem_cons.mpr ⟨
  (gs_aload_n dX11_load_128 rfl), List.forall_mem_cons.mpr ⟨
  (gs_iload_n dX11_load_129 rfl), List.forall_mem_cons.mpr ⟨
  (gs_cv dX11_load_130 (fun q hq => by
      simp only [List.mem_cons, List.not_mem_nil, or_false] at hq
      subst hq
      exact Or.inl ⟨_, rfl, by decide, by decide +kernel, by decide +kernel, List.forall_mem_cons.mpr ⟨gx_mem 517 (by decide +kernel) (by decide +kernel), List.forall_mem_cons.mpr ⟨gx_mem 519 (by decide +kernel) (by decide +kernel), List.forall_mem_cons.mpr ⟨gx_mem 1 (by decide +kernel) (by decide +kernel), List.forall_mem_cons.mpr ⟨gx_mem 84 (by decide +kernel) (by decide +kernel), List.forall_mem_cons.mpr ⟨cw_520, fun _ h => absurd h List.not_mem_nil⟩⟩⟩⟩⟩⟩)), List.forall_mem_cons.mpr ⟨
  (gs_ri dX11_load_133), List.forall_mem_cons.mpr ⟨
  (gs_aload_n dX11_load_134 rfl), List.forall_mem_cons.mpr ⟨
  (gs_iload_n dX11_load_135 rfl), List.forall_mem_cons.mpr ⟨
  (gs_cv dX11_load_136 (fun q hq => by
      simp only [List.mem_cons, List.not_mem_nil, or_false] at hq
      subst hq
      exact Or.inl ⟨_, rfl, by decide, by decide +kernel, by decide +kernel, List.forall_mem_cons.mpr ⟨gx_mem 541 (by decide +kernel) (by decide +kernel), List.forall_mem_cons.mpr ⟨gx_mem 543 (by decide +kernel) (by decide +kernel), List.forall_mem_cons.mpr ⟨gx_mem 4 (by decide +kernel) (by decide +kernel), List.forall_mem_cons.mpr ⟨gx_mem 84 (by decide +kernel) (by decide +kernel), List.forall_mem_cons.mpr ⟨cw_544, fun _ h => absurd h List.not_mem_nil⟩⟩⟩⟩⟩⟩)), List.forall_mem_cons.mpr ⟨
  (gs_ri dX11_load_139), List.forall_mem_cons.mpr ⟨
  (gs_aload_n dX11_load_140 rfl), List.forall_mem_cons.mpr ⟨
  (gs_iload_n dX11_load_141 rfl), List.forall_mem_cons.mpr ⟨
  (gs_iconst dX11_load_142 rfl), List.forall_mem_cons.mpr ⟨
  (gs_iconst dX11_load_143 rfl), List.forall_mem_cons.mpr ⟨
  (gs_cv dX11_load_144 (fun q hq => by
      simp only [List.mem_cons, List.not_mem_nil, or_false] at hq
      subst hq
      exact Or.inl ⟨_, rfl, by decide, by decide +kernel, by decide +kernel, List.forall_mem_cons.mpr ⟨gx_mem 545 (by decide +kernel) (by decide +kernel), List.forall_mem_cons.mpr ⟨gx_mem 547 (by decide +kernel) (by decide +kernel), List.forall_mem_cons.mpr ⟨gx_mem 5 (by decide +kernel) (by decide +kernel), List.forall_mem_cons.mpr ⟨gx_mem 84 (by decide +kernel) (by decide +kernel), List.forall_mem_cons.mpr ⟨cw_548, fun _ h => absurd h List.not_mem_nil⟩⟩⟩⟩⟩⟩)), List.forall_mem_cons.mpr ⟨
  (gs_ri dX11_load_147), List.forall_mem_cons.mpr ⟨
  (gs_aload_n dX11_load_148 rfl), List.forall_mem_cons.mpr ⟨
  (gs_iload_n dX11_load_149 rfl), List.forall_mem_cons.mpr ⟨
  (gs_iconst dX11_load_150 rfl), List.forall_mem_cons.mpr ⟨
  (gs_iconst dX11_load_151 rfl), List.forall_mem_cons.mpr ⟨
  (gs_cv dX11_load_152 (fun q hq => by
      simp only [List.mem_cons, List.not_mem_nil, or_false] at hq
      subst hq
      exact Or.inl ⟨_, rfl, by decide, by decide +kernel, by decide +kernel, List.forall_mem_cons.mpr ⟨gx_mem 545 (by decide +kernel) (by decide +kernel), List.forall_mem_cons.mpr ⟨gx_mem 547 (by decide +kernel) (by decide +kernel), List.forall_mem_cons.mpr ⟨gx_mem 5 (by decide +kernel) (by decide +kernel), List.forall_mem_cons.mpr ⟨gx_mem 84 (by decide +kernel) (by decide +kernel), List.forall_mem_cons.mpr ⟨cw_548, fun _ h => absurd h List.not_mem_nil⟩⟩⟩⟩⟩⟩)), fun _ h => absurd h List.not_mem_nil⟩⟩⟩⟩⟩⟩⟩⟩⟩⟩⟩⟩⟩⟩⟩⟩⟩⟩⟩⟩⟩⟩⟩⟩⟩⟩⟩⟩⟩⟩⟩⟩
set_option maxRecDepth 20000 in
theorem kt_X11_load_2 (g : gx_T) : ∀ q ∈ k_X11_load_2, gx_E g gc_md RX11 cX11_load 3 (some .int) "load" q.1 q.2 := List.forall_mem_cons.mpr ⟨(gs_ri dX11_load_155), List.forall_mem_cons.mpr ⟨
  (gs_iconst dX11_load_156 rfl), List.forall_mem_cons.mpr ⟨
  (gs_ri dX11_load_157), fun _ h => absurd h List.not_mem_nil⟩⟩⟩
theorem kt_X11_load (g : gx_T) : ∀ q ∈ k_X11_load, gx_E g gc_md RX11 cX11_load 3 (some .int) "load" q.1 q.2 := List.forall_mem_append.mpr ⟨kt_X11_load_0 g, List.forall_mem_append.mpr ⟨kt_X11_load_1 g, kt_X11_load_2 g⟩⟩
set_option maxRecDepth 20000 in
theorem dX11_send_0 : decode cX11_send 0 = .ok (.aload_n 0, 1) := by decide +kernel
set_option maxRecDepth 20000 in
theorem dX11_send_1 : decode cX11_send 1 = .ok (.getfield 98, 3) := by decide +kernel
set_option maxRecDepth 20000 in
theorem dX11_send_4 : decode cX11_send 4 = .ok (.iload_n 1, 1) := by decide +kernel
set_option maxRecDepth 20000 in
theorem dX11_send_5 : decode cX11_send 5 = .ok (.invokevirtual 140, 3) := by decide +kernel
set_option maxRecDepth 20000 in
theorem dX11_send_8 : decode cX11_send 8 = .ok (.ifCond .ne 5, 3) := by decide +kernel
set_option maxRecDepth 20000 in
theorem dX11_send_11 : decode cX11_send 11 = .ok (.iconst (-1), 1) := by decide +kernel
set_option maxRecDepth 20000 in
theorem dX11_send_12 : decode cX11_send 12 = .ok (.ireturn, 1) := by decide +kernel
set_option maxRecDepth 20000 in
theorem dX11_send_13 : decode cX11_send 13 = .ok (.iload_n 2, 1) := by decide +kernel
set_option maxRecDepth 20000 in
theorem dX11_send_14 : decode cX11_send 14 = .ok (.iconst (-1), 1) := by decide +kernel
set_option maxRecDepth 20000 in
theorem dX11_send_15 : decode cX11_send 15 = .ok (.if_icmp .eq 16, 3) := by decide +kernel
set_option maxRecDepth 20000 in
theorem dX11_send_18 : decode cX11_send 18 = .ok (.aload_n 0, 1) := by decide +kernel
set_option maxRecDepth 20000 in
theorem dX11_send_19 : decode cX11_send 19 = .ok (.getfield 98, 3) := by decide +kernel
set_option maxRecDepth 20000 in
theorem dX11_send_22 : decode cX11_send 22 = .ok (.iload_n 2, 1) := by decide +kernel
set_option maxRecDepth 20000 in
theorem dX11_send_23 : decode cX11_send 23 = .ok (.invokevirtual 119, 3) := by decide +kernel
set_option maxRecDepth 20000 in
theorem dX11_send_26 : decode cX11_send 26 = .ok (.ifCond .ne 5, 3) := by decide +kernel
set_option maxRecDepth 20000 in
theorem dX11_send_29 : decode cX11_send 29 = .ok (.iconst (-1), 1) := by decide +kernel
set_option maxRecDepth 20000 in
theorem dX11_send_30 : decode cX11_send 30 = .ok (.ireturn, 1) := by decide +kernel
set_option maxRecDepth 20000 in
theorem dX11_send_31 : decode cX11_send 31 = .ok (.aload_n 0, 1) := by decide +kernel
set_option maxRecDepth 20000 in
theorem dX11_send_32 : decode cX11_send 32 = .ok (.getfield 98, 3) := by decide +kernel
set_option maxRecDepth 20000 in
theorem dX11_send_35 : decode cX11_send 35 = .ok (.getfield 158, 3) := by decide +kernel
set_option maxRecDepth 20000 in
theorem dX11_send_38 : decode cX11_send 38 = .ok (.iload_n 1, 1) := by decide +kernel
set_option maxRecDepth 20000 in
theorem dX11_send_39 : decode cX11_send 39 = .ok (.iaload, 1) := by decide +kernel
set_option maxRecDepth 20000 in
theorem dX11_send_40 : decode cX11_send 40 = .ok (.ifCond .eq 6, 3) := by decide +kernel
set_option maxRecDepth 20000 in
theorem dX11_send_43 : decode cX11_send 43 = .ok (.bipush (-3), 2) := by decide +kernel
set_option maxRecDepth 20000 in
theorem dX11_send_45 : decode cX11_send 45 = .ok (.ireturn, 1) := by decide +kernel
set_option maxRecDepth 20000 in
theorem dX11_send_46 : decode cX11_send 46 = .ok (.aload_n 0, 1) := by decide +kernel
set_option maxRecDepth 20000 in
theorem dX11_send_47 : decode cX11_send 47 = .ok (.getfield 98, 3) := by decide +kernel
set_option maxRecDepth 20000 in
theorem dX11_send_50 : decode cX11_send 50 = .ok (.getfield 155, 3) := by decide +kernel
set_option maxRecDepth 20000 in
theorem dX11_send_53 : decode cX11_send 53 = .ok (.iload_n 1, 1) := by decide +kernel
set_option maxRecDepth 20000 in
theorem dX11_send_54 : decode cX11_send 54 = .ok (.iaload, 1) := by decide +kernel
set_option maxRecDepth 20000 in
theorem dX11_send_55 : decode cX11_send 55 = .ok (.istore_n 3, 1) := by decide +kernel
set_option maxRecDepth 20000 in
theorem dX11_send_56 : decode cX11_send 56 = .ok (.aload_n 0, 1) := by decide +kernel
set_option maxRecDepth 20000 in
theorem dX11_send_57 : decode cX11_send 57 = .ok (.getfield 98, 3) := by decide +kernel
set_option maxRecDepth 20000 in
theorem dX11_send_60 : decode cX11_send 60 = .ok (.getfield 155, 3) := by decide +kernel
set_option maxRecDepth 20000 in
theorem dX11_send_63 : decode cX11_send 63 = .ok (.iload_n 1, 1) := by decide +kernel
set_option maxRecDepth 20000 in
theorem dX11_send_64 : decode cX11_send 64 = .ok (.iload_n 2, 1) := by decide +kernel
set_option maxRecDepth 20000 in
theorem dX11_send_65 : decode cX11_send 65 = .ok (.iastore, 1) := by decide +kernel
set_option maxRecDepth 20000 in
theorem dX11_send_66 : decode cX11_send 66 = .ok (.iload_n 3, 1) := by decide +kernel
set_option maxRecDepth 20000 in
theorem dX11_send_67 : decode cX11_send 67 = .ok (.invokestatic 137, 3) := by decide +kernel
set_option maxRecDepth 20000 in
theorem dX11_send_70 : decode cX11_send 70 = .ok (.ireturn, 1) := by decide +kernel
set_option maxRecDepth 20000 in
theorem kt_X11_send_0 (g : gx_T) : ∀ q ∈ k_X11_send_0, gx_E g gc_md RX11 cX11_send 4 (some .int) "send" q.1 q.2 := List.forall_mem_cons.mpr ⟨(gs_aload_n dX11_send_0 rfl), List.forall_mem_cons.mpr ⟨
  (gs_gf (ref := "GriefCranes") dX11_send_1 (gx_mem 371 (by decide +kernel) (by decide +kernel)) (Or.inl rfl) gf_11_0), List.forall_mem_cons.mpr ⟨
  (gs_iload_n dX11_send_4 rfl), List.forall_mem_cons.mpr ⟨
  (gs_cv dX11_send_5 (fun q hq => by
      simp only [List.mem_cons, List.not_mem_nil, or_false] at hq
      subst hq
      exact Or.inl ⟨_, rfl, by decide, by decide +kernel, by decide +kernel, List.forall_mem_cons.mpr ⟨gx_mem 449 (by decide +kernel) (by decide +kernel), List.forall_mem_cons.mpr ⟨gx_mem 450 (by decide +kernel) (by decide +kernel), List.forall_mem_cons.mpr ⟨gx_mem 451 (by decide +kernel) (by decide +kernel), List.forall_mem_cons.mpr ⟨gx_mem 95 (by decide +kernel) (by decide +kernel), List.forall_mem_cons.mpr ⟨cw_452, fun _ h => absurd h List.not_mem_nil⟩⟩⟩⟩⟩⟩)), List.forall_mem_cons.mpr ⟨
  (gs_if_ne dX11_send_8 rfl), List.forall_mem_cons.mpr ⟨
  (gs_iconst dX11_send_11 rfl), List.forall_mem_cons.mpr ⟨
  (gs_ri dX11_send_12), List.forall_mem_cons.mpr ⟨
  (gs_iload_n dX11_send_13 rfl), List.forall_mem_cons.mpr ⟨
  (gs_iconst dX11_send_14 rfl), List.forall_mem_cons.mpr ⟨
  (gs_icmp_eq dX11_send_15 rfl), List.forall_mem_cons.mpr ⟨
  (gs_aload_n dX11_send_18 rfl), List.forall_mem_cons.mpr ⟨
  (gs_gf (ref := "GriefCranes") dX11_send_19 (gx_mem 371 (by decide +kernel) (by decide +kernel)) (Or.inl rfl) gf_11_0), List.forall_mem_cons.mpr ⟨
  (gs_iload_n dX11_send_22 rfl), List.forall_mem_cons.mpr ⟨
  (gs_cv dX11_send_23 (fun q hq => by
      simp only [List.mem_cons, List.not_mem_nil, or_false] at hq
      subst hq
      exact Or.inl ⟨_, rfl, by decide, by decide +kernel, by decide +kernel, List.forall_mem_cons.mpr ⟨gx_mem 438 (by decide +kernel) (by decide +kernel), List.forall_mem_cons.mpr ⟨gx_mem 439 (by decide +kernel) (by decide +kernel), List.forall_mem_cons.mpr ⟨gx_mem 440 (by decide +kernel) (by decide +kernel), List.forall_mem_cons.mpr ⟨gx_mem 95 (by decide +kernel) (by decide +kernel), List.forall_mem_cons.mpr ⟨cw_441, fun _ h => absurd h List.not_mem_nil⟩⟩⟩⟩⟩⟩)), List.forall_mem_cons.mpr ⟨
  (gs_if_ne dX11_send_26 rfl), List.forall_mem_cons.mpr ⟨
  (gs_iconst dX11_send_29 rfl), List.forall_mem_cons.mpr ⟨
  (gs_ri dX11_send_30), List.forall_mem_cons.mpr ⟨
  (gs_aload_n dX11_send_31 rfl), List.forall_mem_cons.mpr ⟨
  (gs_gf (ref := "GriefCranes") dX11_send_32 (gx_mem 371 (by decide +kernel) (by decide +kernel)) (Or.inl rfl) gf_11_0), List.forall_mem_cons.mpr ⟨
  (gs_gf (ref := "GriefCranes$Yard") dX11_send_35 (gx_mem 332 (by decide +kernel) (by decide +kernel)) (Or.inl rfl) gf_10_12), List.forall_mem_cons.mpr ⟨
  (gs_iload_n dX11_send_38 rfl), List.forall_mem_cons.mpr ⟨
  (gs_iaload dX11_send_39), List.forall_mem_cons.mpr ⟨
  (gs_if_eq dX11_send_40 rfl), List.forall_mem_cons.mpr ⟨
  (gs_bipush dX11_send_43 rfl), List.forall_mem_cons.mpr ⟨
  (gs_ri dX11_send_45), List.forall_mem_cons.mpr ⟨
  (gs_aload_n dX11_send_46 rfl), List.forall_mem_cons.mpr ⟨
  (gs_gf (ref := "GriefCranes") dX11_send_47 (gx_mem 371 (by decide +kernel) (by decide +kernel)) (Or.inl rfl) gf_11_0), List.forall_mem_cons.mpr ⟨
  (gs_gf (ref := "GriefCranes$Yard") dX11_send_50 (gx_mem 330 (by decide +kernel) (by decide +kernel)) (Or.inl rfl) gf_10_11), List.forall_mem_cons.mpr ⟨
  (gs_iload_n dX11_send_53 rfl), List.forall_mem_cons.mpr ⟨
  (gs_iaload dX11_send_54), List.forall_mem_cons.mpr ⟨
  (gs_istore_n dX11_send_55 rfl), List.forall_mem_cons.mpr ⟨
  (gs_aload_n dX11_send_56 rfl), fun _ h => absurd h List.not_mem_nil⟩⟩⟩⟩⟩⟩⟩⟩⟩⟩⟩⟩⟩⟩⟩⟩⟩⟩⟩⟩⟩⟩⟩⟩⟩⟩⟩⟩⟩⟩⟩⟩
set_option maxRecDepth 20000 in
theorem kt_X11_send_1 (g : gx_T) : ∀ q ∈ k_X11_send_1, gx_E g gc_md RX11 cX11_send 4 (some .int) "send" q.1 q.2 := List.forall_mem_cons.mpr ⟨(gs_gf (ref := "GriefCranes") dX11_send_57 (gx_mem 371 (by decide +kernel) (by decide +kernel)) (Or.inl rfl) gf_11_0), List.forall_mem_cons.mpr ⟨
  (gs_gf (ref := "GriefCranes$Yard") dX11_send_60 (gx_mem 330 (by decide +kernel) (by decide +kernel)) (Or.inl rfl) gf_10_11), List.forall_mem_cons.mpr ⟨
  (gs_iload_n dX11_send_63 rfl), List.forall_mem_cons.mpr ⟨
  (gs_iload_n dX11_send_64 rfl), List.forall_mem_cons.mpr ⟨
  (gs_iastore dX11_send_65), List.forall_mem_cons.mpr ⟨
  (gs_iload_n dX11_send_66 rfl), List.forall_mem_cons.mpr ⟨
  (gs_cs dX11_send_67 (md_99) (List.forall_mem_cons.mpr ⟨gx_mem 446 (by decide +kernel) (by decide +kernel), List.forall_mem_cons.mpr ⟨gx_mem 447 (by decide +kernel) (by decide +kernel), List.forall_mem_cons.mpr ⟨gx_mem 84 (by decide +kernel) (by decide +kernel), List.forall_mem_cons.mpr ⟨cw_448, fun _ h => absurd h List.not_mem_nil⟩⟩⟩⟩) (by decide +kernel) (by decide)), List.forall_mem_cons.mpr ⟨
  (gs_ri dX11_send_70), fun _ h => absurd h List.not_mem_nil⟩⟩⟩⟩⟩⟩⟩⟩
theorem kt_X11_send (g : gx_T) : ∀ q ∈ k_X11_send, gx_E g gc_md RX11 cX11_send 4 (some .int) "send" q.1 q.2 := List.forall_mem_append.mpr ⟨kt_X11_send_0 g, kt_X11_send_1 g⟩
set_option maxRecDepth 20000 in
theorem dX11_wind_0 : decode cX11_wind 0 = .ok (.iload_n 1, 1) := by decide +kernel
set_option maxRecDepth 20000 in
theorem dX11_wind_1 : decode cX11_wind 1 = .ok (.iconst 3, 1) := by decide +kernel
set_option maxRecDepth 20000 in
theorem dX11_wind_2 : decode cX11_wind 2 = .ok (.invokestatic 108, 3) := by decide +kernel
set_option maxRecDepth 20000 in
theorem dX11_wind_5 : decode cX11_wind 5 = .ok (.ifCond .ne 5, 3) := by decide +kernel
set_option maxRecDepth 20000 in
theorem dX11_wind_8 : decode cX11_wind 8 = .ok (.iconst (-1), 1) := by decide +kernel
set_option maxRecDepth 20000 in
theorem dX11_wind_9 : decode cX11_wind 9 = .ok (.ireturn, 1) := by decide +kernel
set_option maxRecDepth 20000 in
theorem dX11_wind_10 : decode cX11_wind 10 = .ok (.iload_n 2, 1) := by decide +kernel
set_option maxRecDepth 20000 in
theorem dX11_wind_11 : decode cX11_wind 11 = .ok (.bipush 9, 2) := by decide +kernel
set_option maxRecDepth 20000 in
theorem dX11_wind_13 : decode cX11_wind 13 = .ok (.invokestatic 108, 3) := by decide +kernel
set_option maxRecDepth 20000 in
theorem dX11_wind_16 : decode cX11_wind 16 = .ok (.ifCond .ne 6, 3) := by decide +kernel
set_option maxRecDepth 20000 in
theorem dX11_wind_19 : decode cX11_wind 19 = .ok (.bipush (-2), 2) := by decide +kernel
set_option maxRecDepth 20000 in
theorem dX11_wind_21 : decode cX11_wind 21 = .ok (.ireturn, 1) := by decide +kernel
set_option maxRecDepth 20000 in
theorem dX11_wind_22 : decode cX11_wind 22 = .ok (.aload_n 0, 1) := by decide +kernel
set_option maxRecDepth 20000 in
theorem dX11_wind_23 : decode cX11_wind 23 = .ok (.getfield 98, 3) := by decide +kernel
set_option maxRecDepth 20000 in
theorem dX11_wind_26 : decode cX11_wind 26 = .ok (.getfield 181, 3) := by decide +kernel
set_option maxRecDepth 20000 in
theorem dX11_wind_29 : decode cX11_wind 29 = .ok (.iload_n 1, 1) := by decide +kernel
set_option maxRecDepth 20000 in
theorem dX11_wind_30 : decode cX11_wind 30 = .ok (.iaload, 1) := by decide +kernel
set_option maxRecDepth 20000 in
theorem dX11_wind_31 : decode cX11_wind 31 = .ok (.istore_n 3, 1) := by decide +kernel
set_option maxRecDepth 20000 in
theorem dX11_wind_32 : decode cX11_wind 32 = .ok (.aload_n 0, 1) := by decide +kernel
set_option maxRecDepth 20000 in
theorem dX11_wind_33 : decode cX11_wind 33 = .ok (.getfield 98, 3) := by decide +kernel
set_option maxRecDepth 20000 in
theorem dX11_wind_36 : decode cX11_wind 36 = .ok (.getfield 181, 3) := by decide +kernel
set_option maxRecDepth 20000 in
theorem dX11_wind_39 : decode cX11_wind 39 = .ok (.iload_n 1, 1) := by decide +kernel
set_option maxRecDepth 20000 in
theorem dX11_wind_40 : decode cX11_wind 40 = .ok (.iload_n 2, 1) := by decide +kernel
set_option maxRecDepth 20000 in
theorem dX11_wind_41 : decode cX11_wind 41 = .ok (.iastore, 1) := by decide +kernel
set_option maxRecDepth 20000 in
theorem dX11_wind_42 : decode cX11_wind 42 = .ok (.iload_n 3, 1) := by decide +kernel
set_option maxRecDepth 20000 in
theorem dX11_wind_43 : decode cX11_wind 43 = .ok (.ireturn, 1) := by decide +kernel
set_option maxRecDepth 20000 in
theorem kt_X11_wind_0 (g : gx_T) : ∀ q ∈ k_X11_wind_0, gx_E g gc_md RX11 cX11_wind 4 (some .int) "wind" q.1 q.2 := List.forall_mem_cons.mpr ⟨(gs_iload_n dX11_wind_0 rfl), List.forall_mem_cons.mpr ⟨
  (gs_iconst dX11_wind_1 rfl), List.forall_mem_cons.mpr ⟨
  (gs_cs dX11_wind_2 (md_98) (List.forall_mem_cons.mpr ⟨gx_mem 427 (by decide +kernel) (by decide +kernel), List.forall_mem_cons.mpr ⟨gx_mem 428 (by decide +kernel) (by decide +kernel), List.forall_mem_cons.mpr ⟨gx_mem 84 (by decide +kernel) (by decide +kernel), List.forall_mem_cons.mpr ⟨cw_429, fun _ h => absurd h List.not_mem_nil⟩⟩⟩⟩) (by decide +kernel) (by decide)), List.forall_mem_cons.mpr ⟨
  (gs_if_ne dX11_wind_5 rfl), List.forall_mem_cons.mpr ⟨
  (gs_iconst dX11_wind_8 rfl), List.forall_mem_cons.mpr ⟨
  (gs_ri dX11_wind_9), List.forall_mem_cons.mpr ⟨
  (gs_iload_n dX11_wind_10 rfl), List.forall_mem_cons.mpr ⟨
  (gs_bipush dX11_wind_11 rfl), List.forall_mem_cons.mpr ⟨
  (gs_cs dX11_wind_13 (md_98) (List.forall_mem_cons.mpr ⟨gx_mem 427 (by decide +kernel) (by decide +kernel), List.forall_mem_cons.mpr ⟨gx_mem 428 (by decide +kernel) (by decide +kernel), List.forall_mem_cons.mpr ⟨gx_mem 84 (by decide +kernel) (by decide +kernel), List.forall_mem_cons.mpr ⟨cw_429, fun _ h => absurd h List.not_mem_nil⟩⟩⟩⟩) (by decide +kernel) (by decide)), List.forall_mem_cons.mpr ⟨
  (gs_if_ne dX11_wind_16 rfl), List.forall_mem_cons.mpr ⟨
  (gs_bipush dX11_wind_19 rfl), List.forall_mem_cons.mpr ⟨
  (gs_ri dX11_wind_21), List.forall_mem_cons.mpr ⟨
  (gs_aload_n dX11_wind_22 rfl), List.forall_mem_cons.mpr ⟨
  (gs_gf (ref := "GriefCranes") dX11_wind_23 (gx_mem 371 (by decide +kernel) (by decide +kernel)) (Or.inl rfl) gf_11_0), List.forall_mem_cons.mpr ⟨
  (gs_gf (ref := "GriefCranes$Yard") dX11_wind_26 (gx_mem 309 (by decide +kernel) (by decide +kernel)) (Or.inl rfl) gf_10_3), List.forall_mem_cons.mpr ⟨
  (gs_iload_n dX11_wind_29 rfl), List.forall_mem_cons.mpr ⟨
  (gs_iaload dX11_wind_30), List.forall_mem_cons.mpr ⟨
  (gs_istore_n dX11_wind_31 rfl), List.forall_mem_cons.mpr ⟨
  (gs_aload_n dX11_wind_32 rfl), List.forall_mem_cons.mpr ⟨
  (gs_gf (ref := "GriefCranes") dX11_wind_33 (gx_mem 371 (by decide +kernel) (by decide +kernel)) (Or.inl rfl) gf_11_0), List.forall_mem_cons.mpr ⟨
  (gs_gf (ref := "GriefCranes$Yard") dX11_wind_36 (gx_mem 309 (by decide +kernel) (by decide +kernel)) (Or.inl rfl) gf_10_3), List.forall_mem_cons.mpr ⟨
  (gs_iload_n dX11_wind_39 rfl), List.forall_mem_cons.mpr ⟨
  (gs_iload_n dX11_wind_40 rfl), List.forall_mem_cons.mpr ⟨
  (gs_iastore dX11_wind_41), List.forall_mem_cons.mpr ⟨
  (gs_iload_n dX11_wind_42 rfl), List.forall_mem_cons.mpr ⟨
  (gs_ri dX11_wind_43), fun _ h => absurd h List.not_mem_nil⟩⟩⟩⟩⟩⟩⟩⟩⟩⟩⟩⟩⟩⟩⟩⟩⟩⟩⟩⟩⟩⟩⟩⟩⟩⟩
theorem kt_X11_wind (g : gx_T) : ∀ q ∈ k_X11_wind, gx_E g gc_md RX11 cX11_wind 4 (some .int) "wind" q.1 q.2 := kt_X11_wind_0 g
set_option maxRecDepth 20000 in
theorem dX11_row_0 : decode cX11_row 0 = .ok (.aload_n 0, 1) := by decide +kernel
set_option maxRecDepth 20000 in
theorem dX11_row_1 : decode cX11_row 1 = .ok (.getfield 98, 3) := by decide +kernel
set_option maxRecDepth 20000 in
theorem dX11_row_4 : decode cX11_row 4 = .ok (.iload_n 1, 1) := by decide +kernel
set_option maxRecDepth 20000 in
theorem dX11_row_5 : decode cX11_row 5 = .ok (.invokevirtual 119, 3) := by decide +kernel
set_option maxRecDepth 20000 in
theorem dX11_row_8 : decode cX11_row 8 = .ok (.ifCond .eq 11, 3) := by decide +kernel
set_option maxRecDepth 20000 in
theorem dX11_row_11 : decode cX11_row 11 = .ok (.iload_n 2, 1) := by decide +kernel
set_option maxRecDepth 20000 in
theorem dX11_row_12 : decode cX11_row 12 = .ok (.iconst 3, 1) := by decide +kernel
set_option maxRecDepth 20000 in
theorem dX11_row_13 : decode cX11_row 13 = .ok (.invokestatic 108, 3) := by decide +kernel
set_option maxRecDepth 20000 in
theorem dX11_row_16 : decode cX11_row 16 = .ok (.ifCond .ne 5, 3) := by decide +kernel
set_option maxRecDepth 20000 in
theorem dX11_row_19 : decode cX11_row 19 = .ok (.iconst (-1), 1) := by decide +kernel
set_option maxRecDepth 20000 in
theorem dX11_row_20 : decode cX11_row 20 = .ok (.ireturn, 1) := by decide +kernel
set_option maxRecDepth 20000 in
theorem dX11_row_21 : decode cX11_row 21 = .ok (.iload_n 3, 1) := by decide +kernel
set_option maxRecDepth 20000 in
theorem dX11_row_22 : decode cX11_row 22 = .ok (.bipush 9, 2) := by decide +kernel
set_option maxRecDepth 20000 in
theorem dX11_row_24 : decode cX11_row 24 = .ok (.invokestatic 108, 3) := by decide +kernel
set_option maxRecDepth 20000 in
theorem dX11_row_27 : decode cX11_row 27 = .ok (.ifCond .ne 6, 3) := by decide +kernel
set_option maxRecDepth 20000 in
theorem dX11_row_30 : decode cX11_row 30 = .ok (.bipush (-2), 2) := by decide +kernel
set_option maxRecDepth 20000 in
theorem dX11_row_32 : decode cX11_row 32 = .ok (.ireturn, 1) := by decide +kernel
set_option maxRecDepth 20000 in
theorem dX11_row_33 : decode cX11_row 33 = .ok (.aload_n 0, 1) := by decide +kernel
set_option maxRecDepth 20000 in
theorem dX11_row_34 : decode cX11_row 34 = .ok (.getfield 98, 3) := by decide +kernel
set_option maxRecDepth 20000 in
theorem dX11_row_37 : decode cX11_row 37 = .ok (.getfield 123, 3) := by decide +kernel
set_option maxRecDepth 20000 in
theorem dX11_row_40 : decode cX11_row 40 = .ok (.iload_n 1, 1) := by decide +kernel
set_option maxRecDepth 20000 in
theorem dX11_row_41 : decode cX11_row 41 = .ok (.iaload, 1) := by decide +kernel
set_option maxRecDepth 20000 in
theorem dX11_row_42 : decode cX11_row 42 = .ok (.bipush 6, 2) := by decide +kernel
set_option maxRecDepth 20000 in
theorem dX11_row_44 : decode cX11_row 44 = .ok (.if_icmp .eq 6, 3) := by decide +kernel
set_option maxRecDepth 20000 in
theorem dX11_row_47 : decode cX11_row 47 = .ok (.bipush (-3), 2) := by decide +kernel
set_option maxRecDepth 20000 in
theorem dX11_row_49 : decode cX11_row 49 = .ok (.ireturn, 1) := by decide +kernel
set_option maxRecDepth 20000 in
theorem dX11_row_50 : decode cX11_row 50 = .ok (.aload_n 0, 1) := by decide +kernel
set_option maxRecDepth 20000 in
theorem dX11_row_51 : decode cX11_row 51 = .ok (.getfield 98, 3) := by decide +kernel
set_option maxRecDepth 20000 in
theorem dX11_row_54 : decode cX11_row 54 = .ok (.getfield 184, 3) := by decide +kernel
set_option maxRecDepth 20000 in
theorem dX11_row_57 : decode cX11_row 57 = .ok (.iload_n 1, 1) := by decide +kernel
set_option maxRecDepth 20000 in
theorem dX11_row_58 : decode cX11_row 58 = .ok (.aaload, 1) := by decide +kernel
set_option maxRecDepth 20000 in
theorem dX11_row_59 : decode cX11_row 59 = .ok (.iload_n 2, 1) := by decide +kernel
set_option maxRecDepth 20000 in
theorem dX11_row_60 : decode cX11_row 60 = .ok (.iaload, 1) := by decide +kernel
set_option maxRecDepth 20000 in
theorem dX11_row_61 : decode cX11_row 61 = .ok (.istore 4, 2) := by decide +kernel
set_option maxRecDepth 20000 in
theorem dX11_row_63 : decode cX11_row 63 = .ok (.aload_n 0, 1) := by decide +kernel
set_option maxRecDepth 20000 in
theorem dX11_row_64 : decode cX11_row 64 = .ok (.getfield 98, 3) := by decide +kernel
set_option maxRecDepth 20000 in
theorem dX11_row_67 : decode cX11_row 67 = .ok (.getfield 184, 3) := by decide +kernel
set_option maxRecDepth 20000 in
theorem dX11_row_70 : decode cX11_row 70 = .ok (.iload_n 1, 1) := by decide +kernel
set_option maxRecDepth 20000 in
theorem dX11_row_71 : decode cX11_row 71 = .ok (.aaload, 1) := by decide +kernel
set_option maxRecDepth 20000 in
theorem dX11_row_72 : decode cX11_row 72 = .ok (.iload_n 2, 1) := by decide +kernel
set_option maxRecDepth 20000 in
theorem dX11_row_73 : decode cX11_row 73 = .ok (.iload_n 3, 1) := by decide +kernel
set_option maxRecDepth 20000 in
theorem dX11_row_74 : decode cX11_row 74 = .ok (.iastore, 1) := by decide +kernel
set_option maxRecDepth 20000 in
theorem dX11_row_75 : decode cX11_row 75 = .ok (.iload 4, 2) := by decide +kernel
set_option maxRecDepth 20000 in
theorem dX11_row_77 : decode cX11_row 77 = .ok (.ireturn, 1) := by decide +kernel
set_option maxRecDepth 20000 in
theorem kt_X11_row_0 (g : gx_T) : ∀ q ∈ k_X11_row_0, gx_E g gc_md RX11 cX11_row 5 (some .int) "row" q.1 q.2 := List.forall_mem_cons.mpr ⟨(gs_aload_n dX11_row_0 rfl), List.forall_mem_cons.mpr ⟨
  (gs_gf (ref := "GriefCranes") dX11_row_1 (gx_mem 371 (by decide +kernel) (by decide +kernel)) (Or.inl rfl) gf_11_0), List.forall_mem_cons.mpr ⟨
  (gs_iload_n dX11_row_4 rfl), List.forall_mem_cons.mpr ⟨
  (gs_cv dX11_row_5 (fun q hq => by
      simp only [List.mem_cons, List.not_mem_nil, or_false] at hq
      subst hq
      exact Or.inl ⟨_, rfl, by decide, by decide +kernel, by decide +kernel, List.forall_mem_cons.mpr ⟨gx_mem 438 (by decide +kernel) (by decide +kernel), List.forall_mem_cons.mpr ⟨gx_mem 439 (by decide +kernel) (by decide +kernel), List.forall_mem_cons.mpr ⟨gx_mem 440 (by decide +kernel) (by decide +kernel), List.forall_mem_cons.mpr ⟨gx_mem 95 (by decide +kernel) (by decide +kernel), List.forall_mem_cons.mpr ⟨cw_441, fun _ h => absurd h List.not_mem_nil⟩⟩⟩⟩⟩⟩)), List.forall_mem_cons.mpr ⟨
  (gs_if_eq dX11_row_8 rfl), List.forall_mem_cons.mpr ⟨
  (gs_iload_n dX11_row_11 rfl), List.forall_mem_cons.mpr ⟨
  (gs_iconst dX11_row_12 rfl), List.forall_mem_cons.mpr ⟨
  (gs_cs dX11_row_13 (md_98) (List.forall_mem_cons.mpr ⟨gx_mem 427 (by decide +kernel) (by decide +kernel), List.forall_mem_cons.mpr ⟨gx_mem 428 (by decide +kernel) (by decide +kernel), List.forall_mem_cons.mpr ⟨gx_mem 84 (by decide +kernel) (by decide +kernel), List.forall_mem_cons.mpr ⟨cw_429, fun _ h => absurd h List.not_mem_nil⟩⟩⟩⟩) (by decide +kernel) (by decide)), List.forall_mem_cons.mpr ⟨
  (gs_if_ne dX11_row_16 rfl), List.forall_mem_cons.mpr ⟨
  (gs_iconst dX11_row_19 rfl), List.forall_mem_cons.mpr ⟨
  (gs_ri dX11_row_20), List.forall_mem_cons.mpr ⟨
  (gs_iload_n dX11_row_21 rfl), List.forall_mem_cons.mpr ⟨
  (gs_bipush dX11_row_22 rfl), List.forall_mem_cons.mpr ⟨
  (gs_cs dX11_row_24 (md_98) (List.forall_mem_cons.mpr ⟨gx_mem 427 (by decide +kernel) (by decide +kernel), List.forall_mem_cons.mpr ⟨gx_mem 428 (by decide +kernel) (by decide +kernel), List.forall_mem_cons.mpr ⟨gx_mem 84 (by decide +kernel) (by decide +kernel), List.forall_mem_cons.mpr ⟨cw_429, fun _ h => absurd h List.not_mem_nil⟩⟩⟩⟩) (by decide +kernel) (by decide)), List.forall_mem_cons.mpr ⟨
  (gs_if_ne dX11_row_27 rfl), List.forall_mem_cons.mpr ⟨
  (gs_bipush dX11_row_30 rfl), List.forall_mem_cons.mpr ⟨
  (gs_ri dX11_row_32), List.forall_mem_cons.mpr ⟨
  (gs_aload_n dX11_row_33 rfl), List.forall_mem_cons.mpr ⟨
  (gs_gf (ref := "GriefCranes") dX11_row_34 (gx_mem 371 (by decide +kernel) (by decide +kernel)) (Or.inl rfl) gf_11_0), List.forall_mem_cons.mpr ⟨
  (gs_gf (ref := "GriefCranes$Yard") dX11_row_37 (gx_mem 313 (by decide +kernel) (by decide +kernel)) (Or.inl rfl) gf_10_5), List.forall_mem_cons.mpr ⟨
  (gs_iload_n dX11_row_40 rfl), List.forall_mem_cons.mpr ⟨
  (gs_iaload dX11_row_41), List.forall_mem_cons.mpr ⟨
  (gs_bipush dX11_row_42 rfl), List.forall_mem_cons.mpr ⟨
  (gs_icmp_eq dX11_row_44 rfl), List.forall_mem_cons.mpr ⟨
  (gs_bipush dX11_row_47 rfl), List.forall_mem_cons.mpr ⟨
  (gs_ri dX11_row_49), List.forall_mem_cons.mpr ⟨
  (gs_aload_n dX11_row_50 rfl), List.forall_mem_cons.mpr ⟨
  (gs_gf (ref := "GriefCranes") dX11_row_51 (gx_mem 371 (by decide +kernel) (by decide +kernel)) (Or.inl rfl) gf_11_0), List.forall_mem_cons.mpr ⟨
  (gs_gf (ref := "GriefCranes$Yard") dX11_row_54 (gx_mem 323 (by decide +kernel) (by decide +kernel)) (Or.inl rfl) gf_10_8), List.forall_mem_cons.mpr ⟨
  (gs_iload_n dX11_row_57 rfl), List.forall_mem_cons.mpr ⟨
  (gs_aaload (by decide) dX11_row_58), List.forall_mem_cons.mpr ⟨
  (gs_iload_n dX11_row_59 rfl), fun _ h => absurd h List.not_mem_nil⟩⟩⟩⟩⟩⟩⟩⟩⟩⟩⟩⟩⟩⟩⟩⟩⟩⟩⟩⟩⟩⟩⟩⟩⟩⟩⟩⟩⟩⟩⟩⟩
set_option maxRecDepth 20000 in
theorem kt_X11_row_1 (g : gx_T) : ∀ q ∈ k_X11_row_1, gx_E g gc_md RX11 cX11_row 5 (some .int) "row" q.1 q.2 := List.forall_mem_cons.mpr ⟨(gs_iaload dX11_row_60), List.forall_mem_cons.mpr ⟨
  (gs_istore dX11_row_61), List.forall_mem_cons.mpr ⟨
  (gs_aload_n dX11_row_63 rfl), List.forall_mem_cons.mpr ⟨
  (gs_gf (ref := "GriefCranes") dX11_row_64 (gx_mem 371 (by decide +kernel) (by decide +kernel)) (Or.inl rfl) gf_11_0), List.forall_mem_cons.mpr ⟨
  (gs_gf (ref := "GriefCranes$Yard") dX11_row_67 (gx_mem 323 (by decide +kernel) (by decide +kernel)) (Or.inl rfl) gf_10_8), List.forall_mem_cons.mpr ⟨
  (gs_iload_n dX11_row_70 rfl), List.forall_mem_cons.mpr ⟨
  (gs_aaload (by decide) dX11_row_71), List.forall_mem_cons.mpr ⟨
  (gs_iload_n dX11_row_72 rfl), List.forall_mem_cons.mpr ⟨
  (gs_iload_n dX11_row_73 rfl), List.forall_mem_cons.mpr ⟨
  (gs_iastore dX11_row_74), List.forall_mem_cons.mpr ⟨
  (gs_iload dX11_row_75), List.forall_mem_cons.mpr ⟨
  (gs_ri dX11_row_77), fun _ h => absurd h List.not_mem_nil⟩⟩⟩⟩⟩⟩⟩⟩⟩⟩⟩⟩
theorem kt_X11_row (g : gx_T) : ∀ q ∈ k_X11_row, gx_E g gc_md RX11 cX11_row 5 (some .int) "row" q.1 q.2 := List.forall_mem_append.mpr ⟨kt_X11_row_0 g, kt_X11_row_1 g⟩
set_option maxRecDepth 20000 in
theorem dX11_feed_0 : decode cX11_feed 0 = .ok (.iload_n 1, 1) := by decide +kernel
set_option maxRecDepth 20000 in
theorem dX11_feed_1 : decode cX11_feed 1 = .ok (.bipush 127, 2) := by decide +kernel
set_option maxRecDepth 20000 in
theorem dX11_feed_3 : decode cX11_feed 3 = .ok (.invokestatic 108, 3) := by decide +kernel
set_option maxRecDepth 20000 in
theorem dX11_feed_6 : decode cX11_feed 6 = .ok (.ifCond .ne 6, 3) := by decide +kernel
set_option maxRecDepth 20000 in
theorem dX11_feed_9 : decode cX11_feed 9 = .ok (.bipush (-2), 2) := by decide +kernel
set_option maxRecDepth 20000 in
theorem dX11_feed_11 : decode cX11_feed 11 = .ok (.ireturn, 1) := by decide +kernel
set_option maxRecDepth 20000 in
theorem dX11_feed_12 : decode cX11_feed 12 = .ok (.aload_n 0, 1) := by decide +kernel
set_option maxRecDepth 20000 in
theorem dX11_feed_13 : decode cX11_feed 13 = .ok (.getfield 43, 3) := by decide +kernel
set_option maxRecDepth 20000 in
theorem dX11_feed_16 : decode cX11_feed 16 = .ok (.bipush 100, 2) := by decide +kernel
set_option maxRecDepth 20000 in
theorem dX11_feed_18 : decode cX11_feed 18 = .ok (.if_icmp .lt 6, 3) := by decide +kernel
set_option maxRecDepth 20000 in
theorem dX11_feed_21 : decode cX11_feed 21 = .ok (.bipush (-4), 2) := by decide +kernel
set_option maxRecDepth 20000 in
theorem dX11_feed_23 : decode cX11_feed 23 = .ok (.ireturn, 1) := by decide +kernel
set_option maxRecDepth 20000 in
theorem dX11_feed_24 : decode cX11_feed 24 = .ok (.aload_n 0, 1) := by decide +kernel
set_option maxRecDepth 20000 in
theorem dX11_feed_25 : decode cX11_feed 25 = .ok (.getfield 39, 3) := by decide +kernel
set_option maxRecDepth 20000 in
theorem dX11_feed_28 : decode cX11_feed 28 = .ok (.aload_n 0, 1) := by decide +kernel
set_option maxRecDepth 20000 in
theorem dX11_feed_29 : decode cX11_feed 29 = .ok (.getfield 43, 3) := by decide +kernel
set_option maxRecDepth 20000 in
theorem dX11_feed_32 : decode cX11_feed 32 = .ok (.iload_n 1, 1) := by decide +kernel
set_option maxRecDepth 20000 in
theorem dX11_feed_33 : decode cX11_feed 33 = .ok (.i2b, 1) := by decide +kernel
set_option maxRecDepth 20000 in
theorem dX11_feed_34 : decode cX11_feed 34 = .ok (.bastore, 1) := by decide +kernel
set_option maxRecDepth 20000 in
theorem dX11_feed_35 : decode cX11_feed 35 = .ok (.aload_n 0, 1) := by decide +kernel
set_option maxRecDepth 20000 in
theorem dX11_feed_36 : decode cX11_feed 36 = .ok (.dup, 1) := by decide +kernel
set_option maxRecDepth 20000 in
theorem dX11_feed_37 : decode cX11_feed 37 = .ok (.getfield 43, 3) := by decide +kernel
set_option maxRecDepth 20000 in
theorem dX11_feed_40 : decode cX11_feed 40 = .ok (.iconst 1, 1) := by decide +kernel
set_option maxRecDepth 20000 in
theorem dX11_feed_41 : decode cX11_feed 41 = .ok (.iadd, 1) := by decide +kernel
set_option maxRecDepth 20000 in
theorem dX11_feed_42 : decode cX11_feed 42 = .ok (.putfield 43, 3) := by decide +kernel
set_option maxRecDepth 20000 in
theorem dX11_feed_45 : decode cX11_feed 45 = .ok (.aload_n 0, 1) := by decide +kernel
set_option maxRecDepth 20000 in
theorem dX11_feed_46 : decode cX11_feed 46 = .ok (.getfield 43, 3) := by decide +kernel
set_option maxRecDepth 20000 in
theorem dX11_feed_49 : decode cX11_feed 49 = .ok (.ireturn, 1) := by decide +kernel
set_option maxRecDepth 20000 in
theorem kt_X11_feed_0 (g : gx_T) : ∀ q ∈ k_X11_feed_0, gx_E g gc_md RX11 cX11_feed 2 (some .int) "feed" q.1 q.2 := List.forall_mem_cons.mpr ⟨(gs_iload_n dX11_feed_0 rfl), List.forall_mem_cons.mpr ⟨
  (gs_bipush dX11_feed_1 rfl), List.forall_mem_cons.mpr ⟨
  (gs_cs dX11_feed_3 (md_98) (List.forall_mem_cons.mpr ⟨gx_mem 427 (by decide +kernel) (by decide +kernel), List.forall_mem_cons.mpr ⟨gx_mem 428 (by decide +kernel) (by decide +kernel), List.forall_mem_cons.mpr ⟨gx_mem 84 (by decide +kernel) (by decide +kernel), List.forall_mem_cons.mpr ⟨cw_429, fun _ h => absurd h List.not_mem_nil⟩⟩⟩⟩) (by decide +kernel) (by decide)), List.forall_mem_cons.mpr ⟨
  (gs_if_ne dX11_feed_6 rfl), List.forall_mem_cons.mpr ⟨
  (gs_bipush dX11_feed_9 rfl), List.forall_mem_cons.mpr ⟨
  (gs_ri dX11_feed_11), List.forall_mem_cons.mpr ⟨
  (gs_aload_n dX11_feed_12 rfl), List.forall_mem_cons.mpr ⟨
  (gs_gf (ref := "GriefCranes") dX11_feed_13 (gx_mem 382 (by decide +kernel) (by decide +kernel)) (Or.inl rfl) gf_11_11), List.forall_mem_cons.mpr ⟨
  (gs_bipush dX11_feed_16 rfl), List.forall_mem_cons.mpr ⟨
  (gs_icmp_lt dX11_feed_18 rfl), List.forall_mem_cons.mpr ⟨
  (gs_bipush dX11_feed_21 rfl), List.forall_mem_cons.mpr ⟨
  (gs_ri dX11_feed_23), List.forall_mem_cons.mpr ⟨
  (gs_aload_n dX11_feed_24 rfl), List.forall_mem_cons.mpr ⟨
  (gs_gf (ref := "GriefCranes") dX11_feed_25 (gx_mem 381 (by decide +kernel) (by decide +kernel)) (Or.inl rfl) gf_11_10), List.forall_mem_cons.mpr ⟨
  (gs_aload_n dX11_feed_28 rfl), List.forall_mem_cons.mpr ⟨
  (gs_gf (ref := "GriefCranes") dX11_feed_29 (gx_mem 382 (by decide +kernel) (by decide +kernel)) (Or.inl rfl) gf_11_11), List.forall_mem_cons.mpr ⟨
  (gs_iload_n dX11_feed_32 rfl), List.forall_mem_cons.mpr ⟨
  (gs_i2b dX11_feed_33), List.forall_mem_cons.mpr ⟨
  (gs_bastore dX11_feed_34), List.forall_mem_cons.mpr ⟨
  (gs_aload_n dX11_feed_35 rfl), List.forall_mem_cons.mpr ⟨
  (gs_dup dX11_feed_36), List.forall_mem_cons.mpr ⟨
  (gs_gf (ref := "GriefCranes") dX11_feed_37 (gx_mem 382 (by decide +kernel) (by decide +kernel)) (Or.inl rfl) gf_11_11), List.forall_mem_cons.mpr ⟨
  (gs_iconst dX11_feed_40 rfl), List.forall_mem_cons.mpr ⟨
  (gs_iadd dX11_feed_41), List.forall_mem_cons.mpr ⟨
  (gs_pf (ref := "GriefCranes") dX11_feed_42 (gx_mem 382 (by decide +kernel) (by decide +kernel)) (Or.inl rfl) gf_11_11 (by decide +kernel)), List.forall_mem_cons.mpr ⟨
  (gs_aload_n dX11_feed_45 rfl), List.forall_mem_cons.mpr ⟨
  (gs_gf (ref := "GriefCranes") dX11_feed_46 (gx_mem 382 (by decide +kernel) (by decide +kernel)) (Or.inl rfl) gf_11_11), List.forall_mem_cons.mpr ⟨
  (gs_ri dX11_feed_49), fun _ h => absurd h List.not_mem_nil⟩⟩⟩⟩⟩⟩⟩⟩⟩⟩⟩⟩⟩⟩⟩⟩⟩⟩⟩⟩⟩⟩⟩⟩⟩⟩⟩⟩
theorem kt_X11_feed (g : gx_T) : ∀ q ∈ k_X11_feed, gx_E g gc_md RX11 cX11_feed 2 (some .int) "feed" q.1 q.2 := kt_X11_feed_0 g
set_option maxRecDepth 20000 in
theorem dX11_firm_0 : decode cX11_firm 0 = .ok (.aload_n 0, 1) := by decide +kernel
set_option maxRecDepth 20000 in
theorem dX11_firm_1 : decode cX11_firm 1 = .ok (.getfield 53, 3) := by decide +kernel
set_option maxRecDepth 20000 in
theorem dX11_firm_4 : decode cX11_firm 4 = .ok (.bipush 6, 2) := by decide +kernel
set_option maxRecDepth 20000 in
theorem dX11_firm_6 : decode cX11_firm 6 = .ok (.if_icmp .lt 6, 3) := by decide +kernel
set_option maxRecDepth 20000 in
theorem dX11_firm_9 : decode cX11_firm 9 = .ok (.bipush (-4), 2) := by decide +kernel
set_option maxRecDepth 20000 in
theorem dX11_firm_11 : decode cX11_firm 11 = .ok (.ireturn, 1) := by decide +kernel
set_option maxRecDepth 20000 in
theorem dX11_firm_12 : decode cX11_firm 12 = .ok (.aload_n 0, 1) := by decide +kernel
set_option maxRecDepth 20000 in
theorem dX11_firm_13 : decode cX11_firm 13 = .ok (.getfield 49, 3) := by decide +kernel
set_option maxRecDepth 20000 in
theorem dX11_firm_16 : decode cX11_firm 16 = .ok (.aload_n 0, 1) := by decide +kernel
set_option maxRecDepth 20000 in
theorem dX11_firm_17 : decode cX11_firm 17 = .ok (.getfield 53, 3) := by decide +kernel
set_option maxRecDepth 20000 in
theorem dX11_firm_20 : decode cX11_firm 20 = .ok (.aaload, 1) := by decide +kernel
set_option maxRecDepth 20000 in
theorem dX11_firm_21 : decode cX11_firm 21 = .ok (.astore_n 1, 1) := by decide +kernel
set_option maxRecDepth 20000 in
theorem dX11_firm_22 : decode cX11_firm 22 = .ok (.aload_n 1, 1) := by decide +kernel
set_option maxRecDepth 20000 in
theorem dX11_firm_23 : decode cX11_firm 23 = .ok (.aload_n 0, 1) := by decide +kernel
set_option maxRecDepth 20000 in
theorem dX11_firm_24 : decode cX11_firm 24 = .ok (.getfield 39, 3) := by decide +kernel
set_option maxRecDepth 20000 in
theorem dX11_firm_27 : decode cX11_firm 27 = .ok (.aload_n 0, 1) := by decide +kernel
set_option maxRecDepth 20000 in
theorem dX11_firm_28 : decode cX11_firm 28 = .ok (.getfield 43, 3) := by decide +kernel
set_option maxRecDepth 20000 in
theorem dX11_firm_31 : decode cX11_firm 31 = .ok (.invokevirtual 188, 3) := by decide +kernel
set_option maxRecDepth 20000 in
theorem dX11_firm_34 : decode cX11_firm 34 = .ok (.istore_n 2, 1) := by decide +kernel
set_option maxRecDepth 20000 in
theorem dX11_firm_35 : decode cX11_firm 35 = .ok (.aload_n 0, 1) := by decide +kernel
set_option maxRecDepth 20000 in
theorem dX11_firm_36 : decode cX11_firm 36 = .ok (.iconst 0, 1) := by decide +kernel
set_option maxRecDepth 20000 in
theorem dX11_firm_37 : decode cX11_firm 37 = .ok (.putfield 43, 3) := by decide +kernel
set_option maxRecDepth 20000 in
theorem dX11_firm_40 : decode cX11_firm 40 = .ok (.iload_n 2, 1) := by decide +kernel
set_option maxRecDepth 20000 in
theorem dX11_firm_41 : decode cX11_firm 41 = .ok (.iconst (-1), 1) := by decide +kernel
set_option maxRecDepth 20000 in
theorem dX11_firm_42 : decode cX11_firm 42 = .ok (.if_icmp .eq 8, 3) := by decide +kernel
set_option maxRecDepth 20000 in
theorem dX11_firm_45 : decode cX11_firm 45 = .ok (.bipush (-10), 2) := by decide +kernel
set_option maxRecDepth 20000 in
theorem dX11_firm_47 : decode cX11_firm 47 = .ok (.iload_n 2, 1) := by decide +kernel
set_option maxRecDepth 20000 in
theorem dX11_firm_48 : decode cX11_firm 48 = .ok (.isub, 1) := by decide +kernel
set_option maxRecDepth 20000 in
theorem dX11_firm_49 : decode cX11_firm 49 = .ok (.ireturn, 1) := by decide +kernel
set_option maxRecDepth 20000 in
theorem dX11_firm_50 : decode cX11_firm 50 = .ok (.aload_n 0, 1) := by decide +kernel
set_option maxRecDepth 20000 in
theorem dX11_firm_51 : decode cX11_firm 51 = .ok (.getfield 98, 3) := by decide +kernel
set_option maxRecDepth 20000 in
theorem dX11_firm_54 : decode cX11_firm 54 = .ok (.aload_n 1, 1) := by decide +kernel
set_option maxRecDepth 20000 in
theorem dX11_firm_55 : decode cX11_firm 55 = .ok (.putfield 192, 3) := by decide +kernel
set_option maxRecDepth 20000 in
theorem dX11_firm_58 : decode cX11_firm 58 = .ok (.aload_n 0, 1) := by decide +kernel
set_option maxRecDepth 20000 in
theorem dX11_firm_59 : decode cX11_firm 59 = .ok (.dup, 1) := by decide +kernel
set_option maxRecDepth 20000 in
theorem dX11_firm_60 : decode cX11_firm 60 = .ok (.getfield 53, 3) := by decide +kernel
set_option maxRecDepth 20000 in
theorem dX11_firm_63 : decode cX11_firm 63 = .ok (.iconst 1, 1) := by decide +kernel
set_option maxRecDepth 20000 in
theorem dX11_firm_64 : decode cX11_firm 64 = .ok (.iadd, 1) := by decide +kernel
set_option maxRecDepth 20000 in
theorem dX11_firm_65 : decode cX11_firm 65 = .ok (.putfield 53, 3) := by decide +kernel
set_option maxRecDepth 20000 in
theorem dX11_firm_68 : decode cX11_firm 68 = .ok (.aload_n 0, 1) := by decide +kernel
set_option maxRecDepth 20000 in
theorem dX11_firm_69 : decode cX11_firm 69 = .ok (.getfield 53, 3) := by decide +kernel
set_option maxRecDepth 20000 in
theorem dX11_firm_72 : decode cX11_firm 72 = .ok (.iconst 1, 1) := by decide +kernel
set_option maxRecDepth 20000 in
theorem dX11_firm_73 : decode cX11_firm 73 = .ok (.isub, 1) := by decide +kernel
set_option maxRecDepth 20000 in
theorem dX11_firm_74 : decode cX11_firm 74 = .ok (.ireturn, 1) := by decide +kernel
set_option maxRecDepth 20000 in
theorem kt_X11_firm_0 (g : gx_T) : ∀ q ∈ k_X11_firm_0, gx_E g gc_md RX11 cX11_firm 3 (some .int) "firm" q.1 q.2 := List.forall_mem_cons.mpr ⟨(gs_aload_n dX11_firm_0 rfl), List.forall_mem_cons.mpr ⟨
  (gs_gf (ref := "GriefCranes") dX11_firm_1 (gx_mem 384 (by decide +kernel) (by decide +kernel)) (Or.inl rfl) gf_11_13), List.forall_mem_cons.mpr ⟨
  (gs_bipush dX11_firm_4 rfl), List.forall_mem_cons.mpr ⟨
  (gs_icmp_lt dX11_firm_6 rfl), List.forall_mem_cons.mpr ⟨
  (gs_bipush dX11_firm_9 rfl), List.forall_mem_cons.mpr ⟨
  (gs_ri dX11_firm_11), List.forall_mem_cons.mpr ⟨
  (gs_aload_n dX11_firm_12 rfl), List.forall_mem_cons.mpr ⟨
  (gs_gf (ref := "GriefCranes") dX11_firm_13 (gx_mem 383 (by decide +kernel) (by decide +kernel)) (Or.inl rfl) gf_11_12), List.forall_mem_cons.mpr ⟨
  (gs_aload_n dX11_firm_16 rfl), List.forall_mem_cons.mpr ⟨
  (gs_gf (ref := "GriefCranes") dX11_firm_17 (gx_mem 384 (by decide +kernel) (by decide +kernel)) (Or.inl rfl) gf_11_13), List.forall_mem_cons.mpr ⟨
  (gs_aaload (by decide) dX11_firm_20), List.forall_mem_cons.mpr ⟨
  (gs_astore_n dX11_firm_21 rfl), List.forall_mem_cons.mpr ⟨
  (gs_aload_n dX11_firm_22 rfl), List.forall_mem_cons.mpr ⟨
  (gs_aload_n dX11_firm_23 rfl), List.forall_mem_cons.mpr ⟨
  (gs_gf (ref := "GriefCranes") dX11_firm_24 (gx_mem 381 (by decide +kernel) (by decide +kernel)) (Or.inl rfl) gf_11_10), List.forall_mem_cons.mpr ⟨
  (gs_aload_n dX11_firm_27 rfl), List.forall_mem_cons.mpr ⟨
  (gs_gf (ref := "GriefCranes") dX11_firm_28 (gx_mem 382 (by decide +kernel) (by decide +kernel)) (Or.inl rfl) gf_11_11), List.forall_mem_cons.mpr ⟨
  (gs_cv dX11_firm_31 (fun q hq => by
      simp only [List.mem_cons, List.not_mem_nil, or_false] at hq
      subst hq
      exact Or.inl ⟨_, rfl, by decide, by decide +kernel, by decide +kernel, List.forall_mem_cons.mpr ⟨gx_mem 576 (by decide +kernel) (by decide +kernel), List.forall_mem_cons.mpr ⟨gx_mem 577 (by decide +kernel) (by decide +kernel), List.forall_mem_cons.mpr ⟨gx_mem 578 (by decide +kernel) (by decide +kernel), List.forall_mem_cons.mpr ⟨gx_mem 86 (by decide +kernel) (by decide +kernel), List.forall_mem_cons.mpr ⟨cw_579, fun _ h => absurd h List.not_mem_nil⟩⟩⟩⟩⟩⟩)), List.forall_mem_cons.mpr ⟨
  (gs_istore_n dX11_firm_34 rfl), List.forall_mem_cons.mpr ⟨
  (gs_aload_n dX11_firm_35 rfl), List.forall_mem_cons.mpr ⟨
  (gs_iconst dX11_firm_36 rfl), List.forall_mem_cons.mpr ⟨
  (gs_pf (ref := "GriefCranes") dX11_firm_37 (gx_mem 382 (by decide +kernel) (by decide +kernel)) (Or.inl rfl) gf_11_11 (by decide +kernel)), List.forall_mem_cons.mpr ⟨
  (gs_iload_n dX11_firm_40 rfl), List.forall_mem_cons.mpr ⟨
  (gs_iconst dX11_firm_41 rfl), List.forall_mem_cons.mpr ⟨
  (gs_icmp_eq dX11_firm_42 rfl), List.forall_mem_cons.mpr ⟨
  (gs_bipush dX11_firm_45 rfl), List.forall_mem_cons.mpr ⟨
  (gs_iload_n dX11_firm_47 rfl), List.forall_mem_cons.mpr ⟨
  (gs_isub dX11_firm_48), List.forall_mem_cons.mpr ⟨
  (gs_ri dX11_firm_49), List.forall_mem_cons.mpr ⟨
  (gs_aload_n dX11_firm_50 rfl), List.forall_mem_cons.mpr ⟨
  (gs_gf (ref := "GriefCranes") dX11_firm_51 (gx_mem 371 (by decide +kernel) (by decide +kernel)) (Or.inl rfl) gf_11_0), List.forall_mem_cons.mpr ⟨
  (gs_aload_n dX11_firm_54 rfl), fun _ h => absurd h List.not_mem_nil⟩⟩⟩⟩⟩⟩⟩⟩⟩⟩⟩⟩⟩⟩⟩⟩⟩⟩⟩⟩⟩⟩⟩⟩⟩⟩⟩⟩⟩⟩⟩⟩
set_option maxRecDepth 20000 in
theorem kt_X11_firm_1 (g : gx_T) : ∀ q ∈ k_X11_firm_1, gx_E g gc_md RX11 cX11_firm 3 (some .int) "firm" q.1 q.2 := List.forall_mem_cons.mpr ⟨(gs_pf (ref := "GriefCranes$Yard") dX11_firm_55 (gx_mem 303 (by decide +kernel) (by decide +kernel)) (Or.inl rfl) gf_10_1 (by decide +kernel)), List.forall_mem_cons.mpr ⟨
  (gs_aload_n dX11_firm_58 rfl), List.forall_mem_cons.mpr ⟨
  (gs_dup dX11_firm_59), List.forall_mem_cons.mpr ⟨
  (gs_gf (ref := "GriefCranes") dX11_firm_60 (gx_mem 384 (by decide +kernel) (by decide +kernel)) (Or.inl rfl) gf_11_13), List.forall_mem_cons.mpr ⟨
  (gs_iconst dX11_firm_63 rfl), List.forall_mem_cons.mpr ⟨
  (gs_iadd dX11_firm_64), List.forall_mem_cons.mpr ⟨
  (gs_pf (ref := "GriefCranes") dX11_firm_65 (gx_mem 384 (by decide +kernel) (by decide +kernel)) (Or.inl rfl) gf_11_13 (by decide +kernel)), List.forall_mem_cons.mpr ⟨
  (gs_aload_n dX11_firm_68 rfl), List.forall_mem_cons.mpr ⟨
  (gs_gf (ref := "GriefCranes") dX11_firm_69 (gx_mem 384 (by decide +kernel) (by decide +kernel)) (Or.inl rfl) gf_11_13), List.forall_mem_cons.mpr ⟨
  (gs_iconst dX11_firm_72 rfl), List.forall_mem_cons.mpr ⟨
  (gs_isub dX11_firm_73), List.forall_mem_cons.mpr ⟨
  (gs_ri dX11_firm_74), fun _ h => absurd h List.not_mem_nil⟩⟩⟩⟩⟩⟩⟩⟩⟩⟩⟩⟩
theorem kt_X11_firm (g : gx_T) : ∀ q ∈ k_X11_firm, gx_E g gc_md RX11 cX11_firm 3 (some .int) "firm" q.1 q.2 := List.forall_mem_append.mpr ⟨kt_X11_firm_0 g, kt_X11_firm_1 g⟩
set_option maxRecDepth 20000 in
theorem dX11_told_0 : decode cX11_told 0 = .ok (.iload_n 1, 1) := by decide +kernel
set_option maxRecDepth 20000 in
theorem dX11_told_1 : decode cX11_told 1 = .ok (.tableswitch 109 0 6 #[43, 51, 62, 73, 82, 91, 100], 43) := by decide +kernel
set_option maxRecDepth 20000 in
theorem dX11_told_44 : decode cX11_told 44 = .ok (.aload_n 0, 1) := by decide +kernel
set_option maxRecDepth 20000 in
theorem dX11_told_45 : decode cX11_told 45 = .ok (.getfield 98, 3) := by decide +kernel
set_option maxRecDepth 20000 in
theorem dX11_told_48 : decode cX11_told 48 = .ok (.getfield 196, 3) := by decide +kernel
set_option maxRecDepth 20000 in
theorem dX11_told_51 : decode cX11_told 51 = .ok (.ireturn, 1) := by decide +kernel
set_option maxRecDepth 20000 in
theorem dX11_told_52 : decode cX11_told 52 = .ok (.aload_n 0, 1) := by decide +kernel
set_option maxRecDepth 20000 in
theorem dX11_told_53 : decode cX11_told 53 = .ok (.getfield 98, 3) := by decide +kernel
set_option maxRecDepth 20000 in
theorem dX11_told_56 : decode cX11_told 56 = .ok (.getfield 192, 3) := by decide +kernel
set_option maxRecDepth 20000 in
theorem dX11_told_59 : decode cX11_told 59 = .ok (.getfield 199, 3) := by decide +kernel
set_option maxRecDepth 20000 in
theorem dX11_told_62 : decode cX11_told 62 = .ok (.ireturn, 1) := by decide +kernel
set_option maxRecDepth 20000 in
theorem dX11_told_63 : decode cX11_told 63 = .ok (.aload_n 0, 1) := by decide +kernel
set_option maxRecDepth 20000 in
theorem dX11_told_64 : decode cX11_told 64 = .ok (.getfield 98, 3) := by decide +kernel
set_option maxRecDepth 20000 in
theorem dX11_told_67 : decode cX11_told 67 = .ok (.getfield 192, 3) := by decide +kernel
set_option maxRecDepth 20000 in
theorem dX11_told_70 : decode cX11_told 70 = .ok (.getfield 202, 3) := by decide +kernel
set_option maxRecDepth 20000 in
theorem dX11_told_73 : decode cX11_told 73 = .ok (.ireturn, 1) := by decide +kernel
set_option maxRecDepth 20000 in
theorem dX11_told_74 : decode cX11_told 74 = .ok (.aload_n 0, 1) := by decide +kernel
set_option maxRecDepth 20000 in
theorem dX11_told_75 : decode cX11_told 75 = .ok (.getfield 98, 3) := by decide +kernel
set_option maxRecDepth 20000 in
theorem dX11_told_78 : decode cX11_told 78 = .ok (.iconst 0, 1) := by decide +kernel
set_option maxRecDepth 20000 in
theorem dX11_told_79 : decode cX11_told 79 = .ok (.invokevirtual 205, 3) := by decide +kernel
set_option maxRecDepth 20000 in
theorem dX11_told_82 : decode cX11_told 82 = .ok (.ireturn, 1) := by decide +kernel
set_option maxRecDepth 20000 in
theorem dX11_told_83 : decode cX11_told 83 = .ok (.aload_n 0, 1) := by decide +kernel
set_option maxRecDepth 20000 in
theorem dX11_told_84 : decode cX11_told 84 = .ok (.getfield 98, 3) := by decide +kernel
set_option maxRecDepth 20000 in
theorem dX11_told_87 : decode cX11_told 87 = .ok (.iconst 1, 1) := by decide +kernel
set_option maxRecDepth 20000 in
theorem dX11_told_88 : decode cX11_told 88 = .ok (.invokevirtual 205, 3) := by decide +kernel
set_option maxRecDepth 20000 in
theorem dX11_told_91 : decode cX11_told 91 = .ok (.ireturn, 1) := by decide +kernel
set_option maxRecDepth 20000 in
theorem dX11_told_92 : decode cX11_told 92 = .ok (.aload_n 0, 1) := by decide +kernel
set_option maxRecDepth 20000 in
theorem dX11_told_93 : decode cX11_told 93 = .ok (.getfield 98, 3) := by decide +kernel
set_option maxRecDepth 20000 in
theorem dX11_told_96 : decode cX11_told 96 = .ok (.iconst 2, 1) := by decide +kernel
set_option maxRecDepth 20000 in
theorem dX11_told_97 : decode cX11_told 97 = .ok (.invokevirtual 205, 3) := by decide +kernel
set_option maxRecDepth 20000 in
theorem dX11_told_100 : decode cX11_told 100 = .ok (.ireturn, 1) := by decide +kernel
set_option maxRecDepth 20000 in
theorem dX11_told_101 : decode cX11_told 101 = .ok (.aload_n 0, 1) := by decide +kernel
set_option maxRecDepth 20000 in
theorem dX11_told_102 : decode cX11_told 102 = .ok (.getfield 98, 3) := by decide +kernel
set_option maxRecDepth 20000 in
theorem dX11_told_105 : decode cX11_told 105 = .ok (.iconst 3, 1) := by decide +kernel
set_option maxRecDepth 20000 in
theorem dX11_told_106 : decode cX11_told 106 = .ok (.invokevirtual 205, 3) := by decide +kernel
set_option maxRecDepth 20000 in
theorem dX11_told_109 : decode cX11_told 109 = .ok (.ireturn, 1) := by decide +kernel
set_option maxRecDepth 20000 in
theorem dX11_told_110 : decode cX11_told 110 = .ok (.iload_n 1, 1) := by decide +kernel
set_option maxRecDepth 20000 in
theorem dX11_told_111 : decode cX11_told 111 = .ok (.bipush 10, 2) := by decide +kernel
set_option maxRecDepth 20000 in
theorem dX11_told_113 : decode cX11_told 113 = .ok (.isub, 1) := by decide +kernel
set_option maxRecDepth 20000 in
theorem dX11_told_114 : decode cX11_told 114 = .ok (.istore_n 2, 1) := by decide +kernel
set_option maxRecDepth 20000 in
theorem dX11_told_115 : decode cX11_told 115 = .ok (.iload_n 2, 1) := by decide +kernel
set_option maxRecDepth 20000 in
theorem dX11_told_116 : decode cX11_told 116 = .ok (.iconst 3, 1) := by decide +kernel
set_option maxRecDepth 20000 in
theorem dX11_told_117 : decode cX11_told 117 = .ok (.invokestatic 108, 3) := by decide +kernel
set_option maxRecDepth 20000 in
theorem dX11_told_120 : decode cX11_told 120 = .ok (.ifCond .eq 15, 3) := by decide +kernel
set_option maxRecDepth 20000 in
theorem dX11_told_123 : decode cX11_told 123 = .ok (.aload_n 0, 1) := by decide +kernel
set_option maxRecDepth 20000 in
theorem dX11_told_124 : decode cX11_told 124 = .ok (.getfield 98, 3) := by decide +kernel
set_option maxRecDepth 20000 in
theorem dX11_told_127 : decode cX11_told 127 = .ok (.getfield 181, 3) := by decide +kernel
set_option maxRecDepth 20000 in
theorem dX11_told_130 : decode cX11_told 130 = .ok (.iload_n 2, 1) := by decide +kernel
set_option maxRecDepth 20000 in
theorem dX11_told_131 : decode cX11_told 131 = .ok (.iaload, 1) := by decide +kernel
set_option maxRecDepth 20000 in
theorem dX11_told_132 : decode cX11_told 132 = .ok (.goto 4, 3) := by decide +kernel
set_option maxRecDepth 20000 in
theorem dX11_told_135 : decode cX11_told 135 = .ok (.iconst (-1), 1) := by decide +kernel
set_option maxRecDepth 20000 in
theorem dX11_told_136 : decode cX11_told 136 = .ok (.ireturn, 1) := by decide +kernel
set_option maxRecDepth 20000 in
theorem kt_X11_told_0 (g : gx_T) : ∀ q ∈ k_X11_told_0, gx_E g gc_md RX11 cX11_told 3 (some .int) "told" q.1 q.2 := List.forall_mem_cons.mpr ⟨(gs_iload_n dX11_told_0 rfl), List.forall_mem_cons.mpr ⟨
  (gs_tsw (lo := 0) (offs := [43, 51, 62, 73, 82, 91, 100]) dX11_told_1 (by decide +kernel) (by decide +kernel)), List.forall_mem_cons.mpr ⟨
  (gs_aload_n dX11_told_44 rfl), List.forall_mem_cons.mpr ⟨
  (gs_gf (ref := "GriefCranes") dX11_told_45 (gx_mem 371 (by decide +kernel) (by decide +kernel)) (Or.inl rfl) gf_11_0), List.forall_mem_cons.mpr ⟨
  (gs_gf (ref := "GriefCranes$Yard") dX11_told_48 (gx_mem 306 (by decide +kernel) (by decide +kernel)) (Or.inl rfl) gf_10_2), List.forall_mem_cons.mpr ⟨
  (gs_ri dX11_told_51), List.forall_mem_cons.mpr ⟨
  (gs_aload_n dX11_told_52 rfl), List.forall_mem_cons.mpr ⟨
  (gs_gf (ref := "GriefCranes") dX11_told_53 (gx_mem 371 (by decide +kernel) (by decide +kernel)) (Or.inl rfl) gf_11_0), List.forall_mem_cons.mpr ⟨
  (gs_gf (ref := "GriefCranes$Yard") dX11_told_56 (gx_mem 303 (by decide +kernel) (by decide +kernel)) (Or.inl rfl) gf_10_1), List.forall_mem_cons.mpr ⟨
  (gs_gf (ref := "GriefCranes$Firm") dX11_told_59 (gx_mem 147 (by decide +kernel) (by decide +kernel)) (Or.inl rfl) gf_1_0), List.forall_mem_cons.mpr ⟨
  (gs_ri dX11_told_62), List.forall_mem_cons.mpr ⟨
  (gs_aload_n dX11_told_63 rfl), List.forall_mem_cons.mpr ⟨
  (gs_gf (ref := "GriefCranes") dX11_told_64 (gx_mem 371 (by decide +kernel) (by decide +kernel)) (Or.inl rfl) gf_11_0), List.forall_mem_cons.mpr ⟨
  (gs_gf (ref := "GriefCranes$Yard") dX11_told_67 (gx_mem 303 (by decide +kernel) (by decide +kernel)) (Or.inl rfl) gf_10_1), List.forall_mem_cons.mpr ⟨
  (gs_gf (ref := "GriefCranes$Firm") dX11_told_70 (gx_mem 150 (by decide +kernel) (by decide +kernel)) (Or.inl rfl) gf_1_1), List.forall_mem_cons.mpr ⟨
  (gs_ri dX11_told_73), List.forall_mem_cons.mpr ⟨
  (gs_aload_n dX11_told_74 rfl), List.forall_mem_cons.mpr ⟨
  (gs_gf (ref := "GriefCranes") dX11_told_75 (gx_mem 371 (by decide +kernel) (by decide +kernel)) (Or.inl rfl) gf_11_0), List.forall_mem_cons.mpr ⟨
  (gs_iconst dX11_told_78 rfl), List.forall_mem_cons.mpr ⟨
  (gs_cv dX11_told_79 (fun q hq => by
      simp only [List.mem_cons, List.not_mem_nil, or_false] at hq
      subst hq
      exact Or.inl ⟨_, rfl, by decide, by decide +kernel, by decide +kernel, List.forall_mem_cons.mpr ⟨gx_mem 737 (by decide +kernel) (by decide +kernel), List.forall_mem_cons.mpr ⟨gx_mem 738 (by decide +kernel) (by decide +kernel), List.forall_mem_cons.mpr ⟨gx_mem 739 (by decide +kernel) (by decide +kernel), List.forall_mem_cons.mpr ⟨gx_mem 95 (by decide +kernel) (by decide +kernel), List.forall_mem_cons.mpr ⟨cw_740, fun _ h => absurd h List.not_mem_nil⟩⟩⟩⟩⟩⟩)), List.forall_mem_cons.mpr ⟨
  (gs_ri dX11_told_82), List.forall_mem_cons.mpr ⟨
  (gs_aload_n dX11_told_83 rfl), List.forall_mem_cons.mpr ⟨
  (gs_gf (ref := "GriefCranes") dX11_told_84 (gx_mem 371 (by decide +kernel) (by decide +kernel)) (Or.inl rfl) gf_11_0), List.forall_mem_cons.mpr ⟨
  (gs_iconst dX11_told_87 rfl), List.forall_mem_cons.mpr ⟨
  (gs_cv dX11_told_88 (fun q hq => by
      simp only [List.mem_cons, List.not_mem_nil, or_false] at hq
      subst hq
      exact Or.inl ⟨_, rfl, by decide, by decide +kernel, by decide +kernel, List.forall_mem_cons.mpr ⟨gx_mem 737 (by decide +kernel) (by decide +kernel), List.forall_mem_cons.mpr ⟨gx_mem 738 (by decide +kernel) (by decide +kernel), List.forall_mem_cons.mpr ⟨gx_mem 739 (by decide +kernel) (by decide +kernel), List.forall_mem_cons.mpr ⟨gx_mem 95 (by decide +kernel) (by decide +kernel), List.forall_mem_cons.mpr ⟨cw_740, fun _ h => absurd h List.not_mem_nil⟩⟩⟩⟩⟩⟩)), List.forall_mem_cons.mpr ⟨
  (gs_ri dX11_told_91), List.forall_mem_cons.mpr ⟨
  (gs_aload_n dX11_told_92 rfl), List.forall_mem_cons.mpr ⟨
  (gs_gf (ref := "GriefCranes") dX11_told_93 (gx_mem 371 (by decide +kernel) (by decide +kernel)) (Or.inl rfl) gf_11_0), List.forall_mem_cons.mpr ⟨
  (gs_iconst dX11_told_96 rfl), List.forall_mem_cons.mpr ⟨
  (gs_cv dX11_told_97 (fun q hq => by
      simp only [List.mem_cons, List.not_mem_nil, or_false] at hq
      subst hq
      exact Or.inl ⟨_, rfl, by decide, by decide +kernel, by decide +kernel, List.forall_mem_cons.mpr ⟨gx_mem 737 (by decide +kernel) (by decide +kernel), List.forall_mem_cons.mpr ⟨gx_mem 738 (by decide +kernel) (by decide +kernel), List.forall_mem_cons.mpr ⟨gx_mem 739 (by decide +kernel) (by decide +kernel), List.forall_mem_cons.mpr ⟨gx_mem 95 (by decide +kernel) (by decide +kernel), List.forall_mem_cons.mpr ⟨cw_740, fun _ h => absurd h List.not_mem_nil⟩⟩⟩⟩⟩⟩)), List.forall_mem_cons.mpr ⟨
  (gs_ri dX11_told_100), List.forall_mem_cons.mpr ⟨
  (gs_aload_n dX11_told_101 rfl), fun _ h => absurd h List.not_mem_nil⟩⟩⟩⟩⟩⟩⟩⟩⟩⟩⟩⟩⟩⟩⟩⟩⟩⟩⟩⟩⟩⟩⟩⟩⟩⟩⟩⟩⟩⟩⟩⟩
set_option maxRecDepth 20000 in
theorem kt_X11_told_1 (g : gx_T) : ∀ q ∈ k_X11_told_1, gx_E g gc_md RX11 cX11_told 3 (some .int) "told" q.1 q.2 := List.forall_mem_cons.mpr ⟨(gs_gf (ref := "GriefCranes") dX11_told_102 (gx_mem 371 (by decide +kernel) (by decide +kernel)) (Or.inl rfl) gf_11_0), List.forall_mem_cons.mpr ⟨
  (gs_iconst dX11_told_105 rfl), List.forall_mem_cons.mpr ⟨
  (gs_cv dX11_told_106 (fun q hq => by
      simp only [List.mem_cons, List.not_mem_nil, or_false] at hq
      subst hq
      exact Or.inl ⟨_, rfl, by decide, by decide +kernel, by decide +kernel, List.forall_mem_cons.mpr ⟨gx_mem 737 (by decide +kernel) (by decide +kernel), List.forall_mem_cons.mpr ⟨gx_mem 738 (by decide +kernel) (by decide +kernel), List.forall_mem_cons.mpr ⟨gx_mem 739 (by decide +kernel) (by decide +kernel), List.forall_mem_cons.mpr ⟨gx_mem 95 (by decide +kernel) (by decide +kernel), List.forall_mem_cons.mpr ⟨cw_740, fun _ h => absurd h List.not_mem_nil⟩⟩⟩⟩⟩⟩)), List.forall_mem_cons.mpr ⟨
  (gs_ri dX11_told_109), List.forall_mem_cons.mpr ⟨
  (gs_iload_n dX11_told_110 rfl), List.forall_mem_cons.mpr ⟨
  (gs_bipush dX11_told_111 rfl), List.forall_mem_cons.mpr ⟨
  (gs_isub dX11_told_113), List.forall_mem_cons.mpr ⟨
  (gs_istore_n dX11_told_114 rfl), List.forall_mem_cons.mpr ⟨
  (gs_iload_n dX11_told_115 rfl), List.forall_mem_cons.mpr ⟨
  (gs_iconst dX11_told_116 rfl), List.forall_mem_cons.mpr ⟨
  (gs_cs dX11_told_117 (md_98) (List.forall_mem_cons.mpr ⟨gx_mem 427 (by decide +kernel) (by decide +kernel), List.forall_mem_cons.mpr ⟨gx_mem 428 (by decide +kernel) (by decide +kernel), List.forall_mem_cons.mpr ⟨gx_mem 84 (by decide +kernel) (by decide +kernel), List.forall_mem_cons.mpr ⟨cw_429, fun _ h => absurd h List.not_mem_nil⟩⟩⟩⟩) (by decide +kernel) (by decide)), List.forall_mem_cons.mpr ⟨
  (gs_if_eq dX11_told_120 rfl), List.forall_mem_cons.mpr ⟨
  (gs_aload_n dX11_told_123 rfl), List.forall_mem_cons.mpr ⟨
  (gs_gf (ref := "GriefCranes") dX11_told_124 (gx_mem 371 (by decide +kernel) (by decide +kernel)) (Or.inl rfl) gf_11_0), List.forall_mem_cons.mpr ⟨
  (gs_gf (ref := "GriefCranes$Yard") dX11_told_127 (gx_mem 309 (by decide +kernel) (by decide +kernel)) (Or.inl rfl) gf_10_3), List.forall_mem_cons.mpr ⟨
  (gs_iload_n dX11_told_130 rfl), List.forall_mem_cons.mpr ⟨
  (gs_iaload dX11_told_131), List.forall_mem_cons.mpr ⟨
  (gs_goto dX11_told_132 rfl), List.forall_mem_cons.mpr ⟨
  (gs_iconst dX11_told_135 rfl), List.forall_mem_cons.mpr ⟨
  (gs_ri dX11_told_136), fun _ h => absurd h List.not_mem_nil⟩⟩⟩⟩⟩⟩⟩⟩⟩⟩⟩⟩⟩⟩⟩⟩⟩⟩⟩⟩
theorem kt_X11_told (g : gx_T) : ∀ q ∈ k_X11_told, gx_E g gc_md RX11 cX11_told 3 (some .int) "told" q.1 q.2 := List.forall_mem_append.mpr ⟨kt_X11_told_0 g, kt_X11_told_1 g⟩
set_option maxRecDepth 20000 in
theorem dX11_pass_0 : decode cX11_pass 0 = .ok (.iload_n 1, 1) := by decide +kernel
set_option maxRecDepth 20000 in
theorem dX11_pass_1 : decode cX11_pass 1 = .ok (.bipush 60, 2) := by decide +kernel
set_option maxRecDepth 20000 in
theorem dX11_pass_3 : decode cX11_pass 3 = .ok (.invokestatic 108, 3) := by decide +kernel
set_option maxRecDepth 20000 in
theorem dX11_pass_6 : decode cX11_pass 6 = .ok (.ifCond .ne 6, 3) := by decide +kernel
set_option maxRecDepth 20000 in
theorem dX11_pass_9 : decode cX11_pass 9 = .ok (.bipush (-2), 2) := by decide +kernel
set_option maxRecDepth 20000 in
theorem dX11_pass_11 : decode cX11_pass 11 = .ok (.ireturn, 1) := by decide +kernel
set_option maxRecDepth 20000 in
theorem dX11_pass_12 : decode cX11_pass 12 = .ok (.aload_n 0, 1) := by decide +kernel
set_option maxRecDepth 20000 in
theorem dX11_pass_13 : decode cX11_pass 13 = .ok (.getfield 98, 3) := by decide +kernel
set_option maxRecDepth 20000 in
theorem dX11_pass_16 : decode cX11_pass 16 = .ok (.getfield 196, 3) := by decide +kernel
set_option maxRecDepth 20000 in
theorem dX11_pass_19 : decode cX11_pass 19 = .ok (.iload_n 1, 1) := by decide +kernel
set_option maxRecDepth 20000 in
theorem dX11_pass_20 : decode cX11_pass 20 = .ok (.iadd, 1) := by decide +kernel
set_option maxRecDepth 20000 in
theorem dX11_pass_21 : decode cX11_pass 21 = .ok (.sipush 9999, 3) := by decide +kernel
set_option maxRecDepth 20000 in
theorem dX11_pass_24 : decode cX11_pass 24 = .ok (.if_icmp .le 6, 3) := by decide +kernel
set_option maxRecDepth 20000 in
theorem dX11_pass_27 : decode cX11_pass 27 = .ok (.bipush (-3), 2) := by decide +kernel
set_option maxRecDepth 20000 in
theorem dX11_pass_29 : decode cX11_pass 29 = .ok (.ireturn, 1) := by decide +kernel
set_option maxRecDepth 20000 in
theorem dX11_pass_30 : decode cX11_pass 30 = .ok (.aload_n 0, 1) := by decide +kernel
set_option maxRecDepth 20000 in
theorem dX11_pass_31 : decode cX11_pass 31 = .ok (.getfield 98, 3) := by decide +kernel
set_option maxRecDepth 20000 in
theorem dX11_pass_34 : decode cX11_pass 34 = .ok (.iload_n 1, 1) := by decide +kernel
set_option maxRecDepth 20000 in
theorem dX11_pass_35 : decode cX11_pass 35 = .ok (.invokevirtual 208, 3) := by decide +kernel
set_option maxRecDepth 20000 in
theorem dX11_pass_38 : decode cX11_pass 38 = .ok (.aload_n 0, 1) := by decide +kernel
set_option maxRecDepth 20000 in
theorem dX11_pass_39 : decode cX11_pass 39 = .ok (.getfield 98, 3) := by decide +kernel
set_option maxRecDepth 20000 in
theorem dX11_pass_42 : decode cX11_pass 42 = .ok (.getfield 196, 3) := by decide +kernel
set_option maxRecDepth 20000 in
theorem dX11_pass_45 : decode cX11_pass 45 = .ok (.ireturn, 1) := by decide +kernel
set_option maxRecDepth 20000 in
theorem kt_X11_pass_0 (g : gx_T) : ∀ q ∈ k_X11_pass_0, gx_E g gc_md RX11 cX11_pass 2 (some .int) "pass" q.1 q.2 := List.forall_mem_cons.mpr ⟨(gs_iload_n dX11_pass_0 rfl), List.forall_mem_cons.mpr ⟨
  (gs_bipush dX11_pass_1 rfl), List.forall_mem_cons.mpr ⟨
  (gs_cs dX11_pass_3 (md_98) (List.forall_mem_cons.mpr ⟨gx_mem 427 (by decide +kernel) (by decide +kernel), List.forall_mem_cons.mpr ⟨gx_mem 428 (by decide +kernel) (by decide +kernel), List.forall_mem_cons.mpr ⟨gx_mem 84 (by decide +kernel) (by decide +kernel), List.forall_mem_cons.mpr ⟨cw_429, fun _ h => absurd h List.not_mem_nil⟩⟩⟩⟩) (by decide +kernel) (by decide)), List.forall_mem_cons.mpr ⟨
  (gs_if_ne dX11_pass_6 rfl), List.forall_mem_cons.mpr ⟨
  (gs_bipush dX11_pass_9 rfl), List.forall_mem_cons.mpr ⟨
  (gs_ri dX11_pass_11), List.forall_mem_cons.mpr ⟨
  (gs_aload_n dX11_pass_12 rfl), List.forall_mem_cons.mpr ⟨
  (gs_gf (ref := "GriefCranes") dX11_pass_13 (gx_mem 371 (by decide +kernel) (by decide +kernel)) (Or.inl rfl) gf_11_0), List.forall_mem_cons.mpr ⟨
  (gs_gf (ref := "GriefCranes$Yard") dX11_pass_16 (gx_mem 306 (by decide +kernel) (by decide +kernel)) (Or.inl rfl) gf_10_2), List.forall_mem_cons.mpr ⟨
  (gs_iload_n dX11_pass_19 rfl), List.forall_mem_cons.mpr ⟨
  (gs_iadd dX11_pass_20), List.forall_mem_cons.mpr ⟨
  (gs_sipush dX11_pass_21 rfl), List.forall_mem_cons.mpr ⟨
  (gs_icmp_le dX11_pass_24 rfl), List.forall_mem_cons.mpr ⟨
  (gs_bipush dX11_pass_27 rfl), List.forall_mem_cons.mpr ⟨
  (gs_ri dX11_pass_29), List.forall_mem_cons.mpr ⟨
  (gs_aload_n dX11_pass_30 rfl), List.forall_mem_cons.mpr ⟨
  (gs_gf (ref := "GriefCranes") dX11_pass_31 (gx_mem 371 (by decide +kernel) (by decide +kernel)) (Or.inl rfl) gf_11_0), List.forall_mem_cons.mpr ⟨
  (gs_iload_n dX11_pass_34 rfl), List.forall_mem_cons.mpr ⟨
  (gs_cv dX11_pass_35 (fun q hq => by
      simp only [List.mem_cons, List.not_mem_nil, or_false] at hq
      subst hq
      exact Or.inl ⟨_, rfl, by decide, by decide +kernel, by decide +kernel, List.forall_mem_cons.mpr ⟨gx_mem 526 (by decide +kernel) (by decide +kernel), List.forall_mem_cons.mpr ⟨gx_mem 527 (by decide +kernel) (by decide +kernel), List.forall_mem_cons.mpr ⟨gx_mem 528 (by decide +kernel) (by decide +kernel), List.forall_mem_cons.mpr ⟨gx_mem 95 (by decide +kernel) (by decide +kernel), List.forall_mem_cons.mpr ⟨cw_529, fun _ h => absurd h List.not_mem_nil⟩⟩⟩⟩⟩⟩)), List.forall_mem_cons.mpr ⟨
  (gs_aload_n dX11_pass_38 rfl), List.forall_mem_cons.mpr ⟨
  (gs_gf (ref := "GriefCranes") dX11_pass_39 (gx_mem 371 (by decide +kernel) (by decide +kernel)) (Or.inl rfl) gf_11_0), List.forall_mem_cons.mpr ⟨
  (gs_gf (ref := "GriefCranes$Yard") dX11_pass_42 (gx_mem 306 (by decide +kernel) (by decide +kernel)) (Or.inl rfl) gf_10_2), List.forall_mem_cons.mpr ⟨
  (gs_ri dX11_pass_45), fun _ h => absurd h List.not_mem_nil⟩⟩⟩⟩⟩⟩⟩⟩⟩⟩⟩⟩⟩⟩⟩⟩⟩⟩⟩⟩⟩⟩⟩
theorem kt_X11_pass (g : gx_T) : ∀ q ∈ k_X11_pass, gx_E g gc_md RX11 cX11_pass 2 (some .int) "pass" q.1 q.2 := kt_X11_pass_0 g
set_option maxRecDepth 20000 in
theorem dX11_on_0 : decode cX11_on 0 = .ok (.iload_n 2, 1) := by decide +kernel
set_option maxRecDepth 20000 in
theorem dX11_on_1 : decode cX11_on 1 = .ok (.iconst 1, 1) := by decide +kernel
set_option maxRecDepth 20000 in
theorem dX11_on_2 : decode cX11_on 2 = .ok (.invokestatic 108, 3) := by decide +kernel
set_option maxRecDepth 20000 in
theorem dX11_on_5 : decode cX11_on 5 = .ok (.istore_n 3, 1) := by decide +kernel
set_option maxRecDepth 20000 in
theorem dX11_on_6 : decode cX11_on 6 = .ok (.iload_n 2, 1) := by decide +kernel
set_option maxRecDepth 20000 in
theorem dX11_on_7 : decode cX11_on 7 = .ok (.bipush 10, 2) := by decide +kernel
set_option maxRecDepth 20000 in
theorem dX11_on_9 : decode cX11_on 9 = .ok (.isub, 1) := by decide +kernel
set_option maxRecDepth 20000 in
theorem dX11_on_10 : decode cX11_on 10 = .ok (.istore 4, 2) := by decide +kernel
set_option maxRecDepth 20000 in
theorem dX11_on_12 : decode cX11_on 12 = .ok (.iload_n 2, 1) := by decide +kernel
set_option maxRecDepth 20000 in
theorem dX11_on_13 : decode cX11_on 13 = .ok (.bipush 20, 2) := by decide +kernel
set_option maxRecDepth 20000 in
theorem dX11_on_15 : decode cX11_on 15 = .ok (.isub, 1) := by decide +kernel
set_option maxRecDepth 20000 in
theorem dX11_on_16 : decode cX11_on 16 = .ok (.istore 5, 2) := by decide +kernel
set_option maxRecDepth 20000 in
theorem dX11_on_18 : decode cX11_on 18 = .ok (.iload_n 3, 1) := by decide +kernel
set_option maxRecDepth 20000 in
theorem dX11_on_19 : decode cX11_on 19 = .ok (.ifCond .ne 29, 3) := by decide +kernel
set_option maxRecDepth 20000 in
theorem dX11_on_22 : decode cX11_on 22 = .ok (.aload_n 0, 1) := by decide +kernel
set_option maxRecDepth 20000 in
theorem dX11_on_23 : decode cX11_on 23 = .ok (.getfield 98, 3) := by decide +kernel
set_option maxRecDepth 20000 in
theorem dX11_on_26 : decode cX11_on 26 = .ok (.iload 4, 2) := by decide +kernel
set_option maxRecDepth 20000 in
theorem dX11_on_28 : decode cX11_on 28 = .ok (.invokevirtual 140, 3) := by decide +kernel
set_option maxRecDepth 20000 in
theorem dX11_on_31 : decode cX11_on 31 = .ok (.ifCond .ne 17, 3) := by decide +kernel
set_option maxRecDepth 20000 in
theorem dX11_on_34 : decode cX11_on 34 = .ok (.aload_n 0, 1) := by decide +kernel
set_option maxRecDepth 20000 in
theorem dX11_on_35 : decode cX11_on 35 = .ok (.getfield 98, 3) := by decide +kernel
set_option maxRecDepth 20000 in
theorem dX11_on_38 : decode cX11_on 38 = .ok (.iload 5, 2) := by decide +kernel
set_option maxRecDepth 20000 in
theorem dX11_on_40 : decode cX11_on 40 = .ok (.invokevirtual 140, 3) := by decide +kernel
set_option maxRecDepth 20000 in
theorem dX11_on_43 : decode cX11_on 43 = .ok (.ifCond .ne 5, 3) := by decide +kernel
set_option maxRecDepth 20000 in
theorem dX11_on_46 : decode cX11_on 46 = .ok (.iconst (-1), 1) := by decide +kernel
set_option maxRecDepth 20000 in
theorem dX11_on_47 : decode cX11_on 47 = .ok (.ireturn, 1) := by decide +kernel
set_option maxRecDepth 20000 in
theorem dX11_on_48 : decode cX11_on 48 = .ok (.iload_n 1, 1) := by decide +kernel
set_option maxRecDepth 20000 in
theorem dX11_on_49 : decode cX11_on 49 = .ok (.bipush 60, 2) := by decide +kernel
set_option maxRecDepth 20000 in
theorem dX11_on_51 : decode cX11_on 51 = .ok (.invokestatic 108, 3) := by decide +kernel
set_option maxRecDepth 20000 in
theorem dX11_on_54 : decode cX11_on 54 = .ok (.ifCond .ne 6, 3) := by decide +kernel
set_option maxRecDepth 20000 in
theorem dX11_on_57 : decode cX11_on 57 = .ok (.bipush (-2), 2) := by decide +kernel
set_option maxRecDepth 20000 in
theorem dX11_on_59 : decode cX11_on 59 = .ok (.ireturn, 1) := by decide +kernel
set_option maxRecDepth 20000 in
theorem dX11_on_60 : decode cX11_on 60 = .ok (.aload_n 0, 1) := by decide +kernel
set_option maxRecDepth 20000 in
theorem dX11_on_61 : decode cX11_on 61 = .ok (.getfield 102, 3) := by decide +kernel
set_option maxRecDepth 20000 in
theorem dX11_on_64 : decode cX11_on 64 = .ok (.aload_n 0, 1) := by decide +kernel
set_option maxRecDepth 20000 in
theorem dX11_on_65 : decode cX11_on 65 = .ok (.getfield 98, 3) := by decide +kernel
set_option maxRecDepth 20000 in
theorem dX11_on_68 : decode cX11_on 68 = .ok (.invokevirtual 167, 3) := by decide +kernel
set_option maxRecDepth 20000 in
theorem dX11_on_71 : decode cX11_on 71 = .ok (.aload_n 0, 1) := by decide +kernel
set_option maxRecDepth 20000 in
theorem dX11_on_72 : decode cX11_on 72 = .ok (.getfield 102, 3) := by decide +kernel
set_option maxRecDepth 20000 in
theorem dX11_on_75 : decode cX11_on 75 = .ok (.iload_n 1, 1) := by decide +kernel
set_option maxRecDepth 20000 in
theorem dX11_on_76 : decode cX11_on 76 = .ok (.invokevirtual 208, 3) := by decide +kernel
set_option maxRecDepth 20000 in
theorem dX11_on_79 : decode cX11_on 79 = .ok (.iload_n 3, 1) := by decide +kernel
set_option maxRecDepth 20000 in
theorem dX11_on_80 : decode cX11_on 80 = .ok (.ifCond .eq 20, 3) := by decide +kernel
set_option maxRecDepth 20000 in
theorem dX11_on_83 : decode cX11_on 83 = .ok (.aload_n 0, 1) := by decide +kernel
set_option maxRecDepth 20000 in
theorem dX11_on_84 : decode cX11_on 84 = .ok (.getfield 102, 3) := by decide +kernel
set_option maxRecDepth 20000 in
theorem dX11_on_87 : decode cX11_on 87 = .ok (.iload_n 2, 1) := by decide +kernel
set_option maxRecDepth 20000 in
theorem dX11_on_88 : decode cX11_on 88 = .ok (.ifCond .ne 7, 3) := by decide +kernel
set_option maxRecDepth 20000 in
theorem dX11_on_91 : decode cX11_on 91 = .ok (.iconst 2, 1) := by decide +kernel
set_option maxRecDepth 20000 in
theorem dX11_on_92 : decode cX11_on 92 = .ok (.goto 4, 3) := by decide +kernel
set_option maxRecDepth 20000 in
theorem dX11_on_95 : decode cX11_on 95 = .ok (.iconst 3, 1) := by decide +kernel
set_option maxRecDepth 20000 in
theorem dX11_on_96 : decode cX11_on 96 = .ok (.invokevirtual 211, 3) := by decide +kernel
set_option maxRecDepth 20000 in
theorem dX11_on_99 : decode cX11_on 99 = .ok (.ireturn, 1) := by decide +kernel
set_option maxRecDepth 20000 in
theorem dX11_on_100 : decode cX11_on 100 = .ok (.aload_n 0, 1) := by decide +kernel
set_option maxRecDepth 20000 in
theorem dX11_on_101 : decode cX11_on 101 = .ok (.getfield 102, 3) := by decide +kernel
set_option maxRecDepth 20000 in
theorem dX11_on_104 : decode cX11_on 104 = .ok (.iload 4, 2) := by decide +kernel
set_option maxRecDepth 20000 in
theorem dX11_on_106 : decode cX11_on 106 = .ok (.invokevirtual 140, 3) := by decide +kernel
set_option maxRecDepth 20000 in
theorem dX11_on_109 : decode cX11_on 109 = .ok (.ifCond .eq 16, 3) := by decide +kernel
set_option maxRecDepth 20000 in
theorem dX11_on_112 : decode cX11_on 112 = .ok (.aload_n 0, 1) := by decide +kernel
set_option maxRecDepth 20000 in
theorem dX11_on_113 : decode cX11_on 113 = .ok (.getfield 102, 3) := by decide +kernel
set_option maxRecDepth 20000 in
theorem dX11_on_116 : decode cX11_on 116 = .ok (.getfield 158, 3) := by decide +kernel
set_option maxRecDepth 20000 in
theorem dX11_on_119 : decode cX11_on 119 = .ok (.iload 4, 2) := by decide +kernel
set_option maxRecDepth 20000 in
theorem dX11_on_121 : decode cX11_on 121 = .ok (.iaload, 1) := by decide +kernel
set_option maxRecDepth 20000 in
theorem dX11_on_122 : decode cX11_on 122 = .ok (.goto 13, 3) := by decide +kernel
set_option maxRecDepth 20000 in
theorem dX11_on_125 : decode cX11_on 125 = .ok (.aload_n 0, 1) := by decide +kernel
set_option maxRecDepth 20000 in
theorem dX11_on_126 : decode cX11_on 126 = .ok (.getfield 102, 3) := by decide +kernel
set_option maxRecDepth 20000 in
theorem dX11_on_129 : decode cX11_on 129 = .ok (.getfield 161, 3) := by decide +kernel
set_option maxRecDepth 20000 in
theorem dX11_on_132 : decode cX11_on 132 = .ok (.iload 5, 2) := by decide +kernel
set_option maxRecDepth 20000 in
theorem dX11_on_134 : decode cX11_on 134 = .ok (.iaload, 1) := by decide +kernel
set_option maxRecDepth 20000 in
theorem dX11_on_135 : decode cX11_on 135 = .ok (.ireturn, 1) := by decide +kernel
set_option maxRecDepth 20000 in
theorem kt_X11_on_0 (g : gx_T) : ∀ q ∈ k_X11_on_0, gx_E g gc_md RX11 cX11_on 6 (some .int) "on" q.1 q.2 := List.forall_mem_cons.mpr ⟨(gs_iload_n dX11_on_0 rfl), List.forall_mem_cons.mpr ⟨
  (gs_iconst dX11_on_1 rfl), List.forall_mem_cons.mpr ⟨
  (gs_cs dX11_on_2 (md_98) (List.forall_mem_cons.mpr ⟨gx_mem 427 (by decide +kernel) (by decide +kernel), List.forall_mem_cons.mpr ⟨gx_mem 428 (by decide +kernel) (by decide +kernel), List.forall_mem_cons.mpr ⟨gx_mem 84 (by decide +kernel) (by decide +kernel), List.forall_mem_cons.mpr ⟨cw_429, fun _ h => absurd h List.not_mem_nil⟩⟩⟩⟩) (by decide +kernel) (by decide)), List.forall_mem_cons.mpr ⟨
  (gs_istore_n dX11_on_5 rfl), List.forall_mem_cons.mpr ⟨
  (gs_iload_n dX11_on_6 rfl), List.forall_mem_cons.mpr ⟨
  (gs_bipush dX11_on_7 rfl), List.forall_mem_cons.mpr ⟨
  (gs_isub dX11_on_9), List.forall_mem_cons.mpr ⟨
  (gs_istore dX11_on_10), List.forall_mem_cons.mpr ⟨
  (gs_iload_n dX11_on_12 rfl), List.forall_mem_cons.mpr ⟨
  (gs_bipush dX11_on_13 rfl), List.forall_mem_cons.mpr ⟨
  (gs_isub dX11_on_15), List.forall_mem_cons.mpr ⟨
  (gs_istore dX11_on_16), List.forall_mem_cons.mpr ⟨
  (gs_iload_n dX11_on_18 rfl), List.forall_mem_cons.mpr ⟨
  (gs_if_ne dX11_on_19 rfl), List.forall_mem_cons.mpr ⟨
  (gs_aload_n dX11_on_22 rfl), List.forall_mem_cons.mpr ⟨
  (gs_gf (ref := "GriefCranes") dX11_on_23 (gx_mem 371 (by decide +kernel) (by decide +kernel)) (Or.inl rfl) gf_11_0), List.forall_mem_cons.mpr ⟨
  (gs_iload dX11_on_26), List.forall_mem_cons.mpr ⟨
  (gs_cv dX11_on_28 (fun q hq => by
      simp only [List.mem_cons, List.not_mem_nil, or_false] at hq
      subst hq
      exact Or.inl ⟨_, rfl, by decide, by decide +kernel, by decide +kernel, List.forall_mem_cons.mpr ⟨gx_mem 449 (by decide +kernel) (by decide +kernel), List.forall_mem_cons.mpr ⟨gx_mem 450 (by decide +kernel) (by decide +kernel), List.forall_mem_cons.mpr ⟨gx_mem 451 (by decide +kernel) (by decide +kernel), List.forall_mem_cons.mpr ⟨gx_mem 95 (by decide +kernel) (by decide +kernel), List.forall_mem_cons.mpr ⟨cw_452, fun _ h => absurd h List.not_mem_nil⟩⟩⟩⟩⟩⟩)), List.forall_mem_cons.mpr ⟨
  (gs_if_ne dX11_on_31 rfl), List.forall_mem_cons.mpr ⟨
  (gs_aload_n dX11_on_34 rfl), List.forall_mem_cons.mpr ⟨
  (gs_gf (ref := "GriefCranes") dX11_on_35 (gx_mem 371 (by decide +kernel) (by decide +kernel)) (Or.inl rfl) gf_11_0), List.forall_mem_cons.mpr ⟨
  (gs_iload dX11_on_38), List.forall_mem_cons.mpr ⟨
  (gs_cv dX11_on_40 (fun q hq => by
      simp only [List.mem_cons, List.not_mem_nil, or_false] at hq
      subst hq
      exact Or.inl ⟨_, rfl, by decide, by decide +kernel, by decide +kernel, List.forall_mem_cons.mpr ⟨gx_mem 449 (by decide +kernel) (by decide +kernel), List.forall_mem_cons.mpr ⟨gx_mem 450 (by decide +kernel) (by decide +kernel), List.forall_mem_cons.mpr ⟨gx_mem 451 (by decide +kernel) (by decide +kernel), List.forall_mem_cons.mpr ⟨gx_mem 95 (by decide +kernel) (by decide +kernel), List.forall_mem_cons.mpr ⟨cw_452, fun _ h => absurd h List.not_mem_nil⟩⟩⟩⟩⟩⟩)), List.forall_mem_cons.mpr ⟨
  (gs_if_ne dX11_on_43 rfl), List.forall_mem_cons.mpr ⟨
  (gs_iconst dX11_on_46 rfl), List.forall_mem_cons.mpr ⟨
  (gs_ri dX11_on_47), List.forall_mem_cons.mpr ⟨
  (gs_iload_n dX11_on_48 rfl), List.forall_mem_cons.mpr ⟨
  (gs_bipush dX11_on_49 rfl), List.forall_mem_cons.mpr ⟨
  (gs_cs dX11_on_51 (md_98) (List.forall_mem_cons.mpr ⟨gx_mem 427 (by decide +kernel) (by decide +kernel), List.forall_mem_cons.mpr ⟨gx_mem 428 (by decide +kernel) (by decide +kernel), List.forall_mem_cons.mpr ⟨gx_mem 84 (by decide +kernel) (by decide +kernel), List.forall_mem_cons.mpr ⟨cw_429, fun _ h => absurd h List.not_mem_nil⟩⟩⟩⟩) (by decide +kernel) (by decide)), List.forall_mem_cons.mpr ⟨
  (gs_if_ne dX11_on_54 rfl), List.forall_mem_cons.mpr ⟨
  (gs_bipush dX11_on_57 rfl), List.forall_mem_cons.mpr ⟨
  (gs_ri dX11_on_59), fun _ h => absurd h List.not_mem_nil⟩⟩⟩⟩⟩⟩⟩⟩⟩⟩⟩⟩⟩⟩⟩⟩⟩⟩⟩⟩⟩⟩⟩⟩⟩⟩⟩⟩⟩⟩⟩⟩
set_option maxRecDepth 20000 in
theorem kt_X11_on_1 (g : gx_T) : ∀ q ∈ k_X11_on_1, gx_E g gc_md RX11 cX11_on 6 (some .int) "on" q.1 q.2 := List.forall_mem_cons.mpr ⟨(gs_aload_n dX11_on_60 rfl), List.forall_mem_cons.mpr ⟨
  (gs_gf (ref := "GriefCranes") dX11_on_61 (gx_mem 372 (by decide +kernel) (by decide +kernel)) (Or.inl rfl) gf_11_1), List.forall_mem_cons.mpr ⟨
  (gs_aload_n dX11_on_64 rfl), List.forall_mem_cons.mpr ⟨
  (gs_gf (ref := "GriefCranes") dX11_on_65 (gx_mem 371 (by decide +kernel) (by decide +kernel)) (Or.inl rfl) gf_11_0), List.forall_mem_cons.mpr ⟨
  (gs_cv dX11_on_68 (fun q hq => by
      simp only [List.mem_cons, List.not_mem_nil, or_false] at hq
      subst hq
      exact Or.inl ⟨_, rfl, by decide, by decide +kernel, by decide +kernel, List.forall_mem_cons.mpr ⟨gx_mem 510 (by decide +kernel) (by decide +kernel), List.forall_mem_cons.mpr ⟨gx_mem 511 (by decide +kernel) (by decide +kernel), List.forall_mem_cons.mpr ⟨gx_mem 512 (by decide +kernel) (by decide +kernel), List.forall_mem_cons.mpr ⟨gx_mem 95 (by decide +kernel) (by decide +kernel), List.forall_mem_cons.mpr ⟨cw_513, fun _ h => absurd h List.not_mem_nil⟩⟩⟩⟩⟩⟩)), List.forall_mem_cons.mpr ⟨
  (gs_aload_n dX11_on_71 rfl), List.forall_mem_cons.mpr ⟨
  (gs_gf (ref := "GriefCranes") dX11_on_72 (gx_mem 372 (by decide +kernel) (by decide +kernel)) (Or.inl rfl) gf_11_1), List.forall_mem_cons.mpr ⟨
  (gs_iload_n dX11_on_75 rfl), List.forall_mem_cons.mpr ⟨
  (gs_cv dX11_on_76 (fun q hq => by
      simp only [List.mem_cons, List.not_mem_nil, or_false] at hq
      subst hq
      exact Or.inl ⟨_, rfl, by decide, by decide +kernel, by decide +kernel, List.forall_mem_cons.mpr ⟨gx_mem 526 (by decide +kernel) (by decide +kernel), List.forall_mem_cons.mpr ⟨gx_mem 527 (by decide +kernel) (by decide +kernel), List.forall_mem_cons.mpr ⟨gx_mem 528 (by decide +kernel) (by decide +kernel), List.forall_mem_cons.mpr ⟨gx_mem 95 (by decide +kernel) (by decide +kernel), List.forall_mem_cons.mpr ⟨cw_529, fun _ h => absurd h List.not_mem_nil⟩⟩⟩⟩⟩⟩)), List.forall_mem_cons.mpr ⟨
  (gs_iload_n dX11_on_79 rfl), List.forall_mem_cons.mpr ⟨
  (gs_if_eq dX11_on_80 rfl), List.forall_mem_cons.mpr ⟨
  (gs_aload_n dX11_on_83 rfl), List.forall_mem_cons.mpr ⟨
  (gs_gf (ref := "GriefCranes") dX11_on_84 (gx_mem 372 (by decide +kernel) (by decide +kernel)) (Or.inl rfl) gf_11_1), List.forall_mem_cons.mpr ⟨
  (gs_iload_n dX11_on_87 rfl), List.forall_mem_cons.mpr ⟨
  (gs_if_ne dX11_on_88 rfl), List.forall_mem_cons.mpr ⟨
  (gs_iconst dX11_on_91 rfl), List.forall_mem_cons.mpr ⟨
  (gs_goto dX11_on_92 rfl), List.forall_mem_cons.mpr ⟨
  (gs_iconst dX11_on_95 rfl), List.forall_mem_cons.mpr ⟨
  (gs_cv dX11_on_96 (fun q hq => by
      simp only [List.mem_cons, List.not_mem_nil, or_false] at hq
      subst hq
      exact Or.inl ⟨_, rfl, by decide, by decide +kernel, by decide +kernel, List.forall_mem_cons.mpr ⟨gx_mem 749 (by decide +kernel) (by decide +kernel), List.forall_mem_cons.mpr ⟨gx_mem 750 (by decide +kernel) (by decide +kernel), List.forall_mem_cons.mpr ⟨gx_mem 751 (by decide +kernel) (by decide +kernel), List.forall_mem_cons.mpr ⟨gx_mem 95 (by decide +kernel) (by decide +kernel), List.forall_mem_cons.mpr ⟨cw_752, fun _ h => absurd h List.not_mem_nil⟩⟩⟩⟩⟩⟩)), List.forall_mem_cons.mpr ⟨
  (gs_ri dX11_on_99), List.forall_mem_cons.mpr ⟨
  (gs_aload_n dX11_on_100 rfl), List.forall_mem_cons.mpr ⟨
  (gs_gf (ref := "GriefCranes") dX11_on_101 (gx_mem 372 (by decide +kernel) (by decide +kernel)) (Or.inl rfl) gf_11_1), List.forall_mem_cons.mpr ⟨
  (gs_iload dX11_on_104), List.forall_mem_cons.mpr ⟨
  (gs_cv dX11_on_106 (fun q hq => by
      simp only [List.mem_cons, List.not_mem_nil, or_false] at hq
      subst hq
      exact Or.inl ⟨_, rfl, by decide, by decide +kernel, by decide +kernel, List.forall_mem_cons.mpr ⟨gx_mem 449 (by decide +kernel) (by decide +kernel), List.forall_mem_cons.mpr ⟨gx_mem 450 (by decide +kernel) (by decide +kernel), List.forall_mem_cons.mpr ⟨gx_mem 451 (by decide +kernel) (by decide +kernel), List.forall_mem_cons.mpr ⟨gx_mem 95 (by decide +kernel) (by decide +kernel), List.forall_mem_cons.mpr ⟨cw_452, fun _ h => absurd h List.not_mem_nil⟩⟩⟩⟩⟩⟩)), List.forall_mem_cons.mpr ⟨
  (gs_if_eq dX11_on_109 rfl), List.forall_mem_cons.mpr ⟨
  (gs_aload_n dX11_on_112 rfl), List.forall_mem_cons.mpr ⟨
  (gs_gf (ref := "GriefCranes") dX11_on_113 (gx_mem 372 (by decide +kernel) (by decide +kernel)) (Or.inl rfl) gf_11_1), List.forall_mem_cons.mpr ⟨
  (gs_gf (ref := "GriefCranes$Yard") dX11_on_116 (gx_mem 332 (by decide +kernel) (by decide +kernel)) (Or.inl rfl) gf_10_12), List.forall_mem_cons.mpr ⟨
  (gs_iload dX11_on_119), List.forall_mem_cons.mpr ⟨
  (gs_iaload dX11_on_121), List.forall_mem_cons.mpr ⟨
  (gs_goto dX11_on_122 rfl), List.forall_mem_cons.mpr ⟨
  (gs_aload_n dX11_on_125 rfl), fun _ h => absurd h List.not_mem_nil⟩⟩⟩⟩⟩⟩⟩⟩⟩⟩⟩⟩⟩⟩⟩⟩⟩⟩⟩⟩⟩⟩⟩⟩⟩⟩⟩⟩⟩⟩⟩⟩
set_option maxRecDepth 20000 in
theorem kt_X11_on_2 (g : gx_T) : ∀ q ∈ k_X11_on_2, gx_E g gc_md RX11 cX11_on 6 (some .int) "on" q.1 q.2 := List.forall_mem_cons.mpr ⟨(gs_gf (ref := "GriefCranes") dX11_on_126 (gx_mem 372 (by decide +kernel) (by decide +kernel)) (Or.inl rfl) gf_11_1), List.forall_mem_cons.mpr ⟨
  (gs_gf (ref := "GriefCranes$Yard") dX11_on_129 (gx_mem 334 (by decide +kernel) (by decide +kernel)) (Or.inl rfl) gf_10_13), List.forall_mem_cons.mpr ⟨
  (gs_iload dX11_on_132), List.forall_mem_cons.mpr ⟨
  (gs_iaload dX11_on_134), List.forall_mem_cons.mpr ⟨
  (gs_ri dX11_on_135), fun _ h => absurd h List.not_mem_nil⟩⟩⟩⟩⟩
theorem kt_X11_on (g : gx_T) : ∀ q ∈ k_X11_on, gx_E g gc_md RX11 cX11_on 6 (some .int) "on" q.1 q.2 := List.forall_mem_append.mpr ⟨kt_X11_on_0 g, List.forall_mem_append.mpr ⟨kt_X11_on_1 g, kt_X11_on_2 g⟩⟩
set_option maxRecDepth 20000 in
theorem dX11_best_0 : decode cX11_best 0 = .ok (.iload_n 2, 1) := by decide +kernel
set_option maxRecDepth 20000 in
theorem dX11_best_1 : decode cX11_best 1 = .ok (.iconst 1, 1) := by decide +kernel
set_option maxRecDepth 20000 in
theorem dX11_best_2 : decode cX11_best 2 = .ok (.invokestatic 108, 3) := by decide +kernel
set_option maxRecDepth 20000 in
theorem dX11_best_5 : decode cX11_best 5 = .ok (.ifCond .ne 5, 3) := by decide +kernel
set_option maxRecDepth 20000 in
theorem dX11_best_8 : decode cX11_best 8 = .ok (.iconst (-1), 1) := by decide +kernel
set_option maxRecDepth 20000 in
theorem dX11_best_9 : decode cX11_best 9 = .ok (.ireturn, 1) := by decide +kernel
set_option maxRecDepth 20000 in
theorem dX11_best_10 : decode cX11_best 10 = .ok (.iload_n 1, 1) := by decide +kernel
set_option maxRecDepth 20000 in
theorem dX11_best_11 : decode cX11_best 11 = .ok (.iconst 1, 1) := by decide +kernel
set_option maxRecDepth 20000 in
theorem dX11_best_12 : decode cX11_best 12 = .ok (.if_icmp .lt 18, 3) := by decide +kernel
set_option maxRecDepth 20000 in
theorem dX11_best_15 : decode cX11_best 15 = .ok (.iload_n 1, 1) := by decide +kernel
set_option maxRecDepth 20000 in
theorem dX11_best_16 : decode cX11_best 16 = .ok (.iload_n 2, 1) := by decide +kernel
set_option maxRecDepth 20000 in
theorem dX11_best_17 : decode cX11_best 17 = .ok (.ifCond .ne 8, 3) := by decide +kernel
set_option maxRecDepth 20000 in
theorem dX11_best_20 : decode cX11_best 20 = .ok (.bipush 20, 2) := by decide +kernel
set_option maxRecDepth 20000 in
theorem dX11_best_22 : decode cX11_best 22 = .ok (.goto 5, 3) := by decide +kernel
set_option maxRecDepth 20000 in
theorem dX11_best_25 : decode cX11_best 25 = .ok (.bipush 12, 2) := by decide +kernel
set_option maxRecDepth 20000 in
theorem dX11_best_27 : decode cX11_best 27 = .ok (.if_icmp .le 6, 3) := by decide +kernel
set_option maxRecDepth 20000 in
theorem dX11_best_30 : decode cX11_best 30 = .ok (.bipush (-2), 2) := by decide +kernel
set_option maxRecDepth 20000 in
theorem dX11_best_32 : decode cX11_best 32 = .ok (.ireturn, 1) := by decide +kernel
set_option maxRecDepth 20000 in
theorem dX11_best_33 : decode cX11_best 33 = .ok (.iload_n 2, 1) := by decide +kernel
set_option maxRecDepth 20000 in
theorem dX11_best_34 : decode cX11_best 34 = .ok (.ifCond .ne 11, 3) := by decide +kernel
set_option maxRecDepth 20000 in
theorem dX11_best_37 : decode cX11_best 37 = .ok (.aload_n 0, 1) := by decide +kernel
set_option maxRecDepth 20000 in
theorem dX11_best_38 : decode cX11_best 38 = .ok (.iload_n 1, 1) := by decide +kernel
set_option maxRecDepth 20000 in
theorem dX11_best_39 : decode cX11_best 39 = .ok (.invokevirtual 214, 3) := by decide +kernel
set_option maxRecDepth 20000 in
theorem dX11_best_42 : decode cX11_best 42 = .ok (.goto 8, 3) := by decide +kernel
set_option maxRecDepth 20000 in
theorem dX11_best_45 : decode cX11_best 45 = .ok (.aload_n 0, 1) := by decide +kernel
set_option maxRecDepth 20000 in
theorem dX11_best_46 : decode cX11_best 46 = .ok (.iload_n 1, 1) := by decide +kernel
set_option maxRecDepth 20000 in
theorem dX11_best_47 : decode cX11_best 47 = .ok (.invokevirtual 217, 3) := by decide +kernel
set_option maxRecDepth 20000 in
theorem dX11_best_50 : decode cX11_best 50 = .ok (.ireturn, 1) := by decide +kernel
set_option maxRecDepth 20000 in
theorem kt_X11_best_0 (g : gx_T) : ∀ q ∈ k_X11_best_0, gx_E g gc_md RX11 cX11_best 3 (some .int) "best" q.1 q.2 := List.forall_mem_cons.mpr ⟨(gs_iload_n dX11_best_0 rfl), List.forall_mem_cons.mpr ⟨
  (gs_iconst dX11_best_1 rfl), List.forall_mem_cons.mpr ⟨
  (gs_cs dX11_best_2 (md_98) (List.forall_mem_cons.mpr ⟨gx_mem 427 (by decide +kernel) (by decide +kernel), List.forall_mem_cons.mpr ⟨gx_mem 428 (by decide +kernel) (by decide +kernel), List.forall_mem_cons.mpr ⟨gx_mem 84 (by decide +kernel) (by decide +kernel), List.forall_mem_cons.mpr ⟨cw_429, fun _ h => absurd h List.not_mem_nil⟩⟩⟩⟩) (by decide +kernel) (by decide)), List.forall_mem_cons.mpr ⟨
  (gs_if_ne dX11_best_5 rfl), List.forall_mem_cons.mpr ⟨
  (gs_iconst dX11_best_8 rfl), List.forall_mem_cons.mpr ⟨
  (gs_ri dX11_best_9), List.forall_mem_cons.mpr ⟨
  (gs_iload_n dX11_best_10 rfl), List.forall_mem_cons.mpr ⟨
  (gs_iconst dX11_best_11 rfl), List.forall_mem_cons.mpr ⟨
  (gs_icmp_lt dX11_best_12 rfl), List.forall_mem_cons.mpr ⟨
  (gs_iload_n dX11_best_15 rfl), List.forall_mem_cons.mpr ⟨
  (gs_iload_n dX11_best_16 rfl), List.forall_mem_cons.mpr ⟨
  (gs_if_ne dX11_best_17 rfl), List.forall_mem_cons.mpr ⟨
  (gs_bipush dX11_best_20 rfl), List.forall_mem_cons.mpr ⟨
  (gs_goto dX11_best_22 rfl), List.forall_mem_cons.mpr ⟨
  (gs_bipush dX11_best_25 rfl), List.forall_mem_cons.mpr ⟨
  (gs_icmp_le dX11_best_27 rfl), List.forall_mem_cons.mpr ⟨
  (gs_bipush dX11_best_30 rfl), List.forall_mem_cons.mpr ⟨
  (gs_ri dX11_best_32), List.forall_mem_cons.mpr ⟨
  (gs_iload_n dX11_best_33 rfl), List.forall_mem_cons.mpr ⟨
  (gs_if_ne dX11_best_34 rfl), List.forall_mem_cons.mpr ⟨
  (gs_aload_n dX11_best_37 rfl), List.forall_mem_cons.mpr ⟨
  (gs_iload_n dX11_best_38 rfl), List.forall_mem_cons.mpr ⟨
  (gs_cv dX11_best_39 (fun q hq => by
      simp only [List.mem_cons, List.not_mem_nil, or_false] at hq
      subst hq
      exact Or.inl ⟨_, rfl, by decide, by decide +kernel, by decide +kernel, List.forall_mem_cons.mpr ⟨gx_mem 764 (by decide +kernel) (by decide +kernel), List.forall_mem_cons.mpr ⟨gx_mem 766 (by decide +kernel) (by decide +kernel), List.forall_mem_cons.mpr ⟨gx_mem 17 (by decide +kernel) (by decide +kernel), List.forall_mem_cons.mpr ⟨gx_mem 84 (by decide +kernel) (by decide +kernel), List.forall_mem_cons.mpr ⟨cw_767, fun _ h => absurd h List.not_mem_nil⟩⟩⟩⟩⟩⟩)), List.forall_mem_cons.mpr ⟨
  (gs_goto dX11_best_42 rfl), List.forall_mem_cons.mpr ⟨
  (gs_aload_n dX11_best_45 rfl), List.forall_mem_cons.mpr ⟨
  (gs_iload_n dX11_best_46 rfl), List.forall_mem_cons.mpr ⟨
  (gs_cv dX11_best_47 (fun q hq => by
      simp only [List.mem_cons, List.not_mem_nil, or_false] at hq
      subst hq
      exact Or.inl ⟨_, rfl, by decide, by decide +kernel, by decide +kernel, List.forall_mem_cons.mpr ⟨gx_mem 768 (by decide +kernel) (by decide +kernel), List.forall_mem_cons.mpr ⟨gx_mem 770 (by decide +kernel) (by decide +kernel), List.forall_mem_cons.mpr ⟨gx_mem 18 (by decide +kernel) (by decide +kernel), List.forall_mem_cons.mpr ⟨gx_mem 84 (by decide +kernel) (by decide +kernel), List.forall_mem_cons.mpr ⟨cw_771, fun _ h => absurd h List.not_mem_nil⟩⟩⟩⟩⟩⟩)), List.forall_mem_cons.mpr ⟨
  (gs_ri dX11_best_50), fun _ h => absurd h List.not_mem_nil⟩⟩⟩⟩⟩⟩⟩⟩⟩⟩⟩⟩⟩⟩⟩⟩⟩⟩⟩⟩⟩⟩⟩⟩⟩⟩⟩⟩
theorem kt_X11_best (g : gx_T) : ∀ q ∈ k_X11_best, gx_E g gc_md RX11 cX11_best 3 (some .int) "best" q.1 q.2 := kt_X11_best_0 g
set_option maxRecDepth 20000 in
theorem dX11_see_0 : decode cX11_see 0 = .ok (.iload_n 1, 1) := by decide +kernel
set_option maxRecDepth 20000 in
theorem dX11_see_1 : decode cX11_see 1 = .ok (.iconst (-1), 1) := by decide +kernel
set_option maxRecDepth 20000 in
theorem dX11_see_2 : decode cX11_see 2 = .ok (.if_icmp .ne 11, 3) := by decide +kernel
set_option maxRecDepth 20000 in
theorem dX11_see_5 : decode cX11_see 5 = .ok (.aload_n 0, 1) := by decide +kernel
set_option maxRecDepth 20000 in
theorem dX11_see_6 : decode cX11_see 6 = .ok (.getfield 16, 3) := by decide +kernel
set_option maxRecDepth 20000 in
theorem dX11_see_9 : decode cX11_see 9 = .ok (.invokevirtual 220, 3) := by decide +kernel
set_option maxRecDepth 20000 in
theorem dX11_see_12 : decode cX11_see 12 = .ok (.ireturn, 1) := by decide +kernel
set_option maxRecDepth 20000 in
theorem dX11_see_13 : decode cX11_see 13 = .ok (.aload_n 0, 1) := by decide +kernel
set_option maxRecDepth 20000 in
theorem dX11_see_14 : decode cX11_see 14 = .ok (.getfield 98, 3) := by decide +kernel
set_option maxRecDepth 20000 in
theorem dX11_see_17 : decode cX11_see 17 = .ok (.iload_n 1, 1) := by decide +kernel
set_option maxRecDepth 20000 in
theorem dX11_see_18 : decode cX11_see 18 = .ok (.invokevirtual 140, 3) := by decide +kernel
set_option maxRecDepth 20000 in
theorem dX11_see_21 : decode cX11_see 21 = .ok (.ifCond .ne 5, 3) := by decide +kernel
set_option maxRecDepth 20000 in
theorem dX11_see_24 : decode cX11_see 24 = .ok (.iconst (-1), 1) := by decide +kernel
set_option maxRecDepth 20000 in
theorem dX11_see_25 : decode cX11_see 25 = .ok (.ireturn, 1) := by decide +kernel
set_option maxRecDepth 20000 in
theorem dX11_see_26 : decode cX11_see 26 = .ok (.iload_n 2, 1) := by decide +kernel
set_option maxRecDepth 20000 in
theorem dX11_see_27 : decode cX11_see 27 = .ok (.bipush 12, 2) := by decide +kernel
set_option maxRecDepth 20000 in
theorem dX11_see_29 : decode cX11_see 29 = .ok (.invokestatic 108, 3) := by decide +kernel
set_option maxRecDepth 20000 in
theorem dX11_see_32 : decode cX11_see 32 = .ok (.ifCond .eq 11, 3) := by decide +kernel
set_option maxRecDepth 20000 in
theorem dX11_see_35 : decode cX11_see 35 = .ok (.iload_n 3, 1) := by decide +kernel
set_option maxRecDepth 20000 in
theorem dX11_see_36 : decode cX11_see 36 = .ok (.iconst 3, 1) := by decide +kernel
set_option maxRecDepth 20000 in
theorem dX11_see_37 : decode cX11_see 37 = .ok (.invokestatic 108, 3) := by decide +kernel
set_option maxRecDepth 20000 in
theorem dX11_see_40 : decode cX11_see 40 = .ok (.ifCond .ne 6, 3) := by decide +kernel
set_option maxRecDepth 20000 in
theorem dX11_see_43 : decode cX11_see 43 = .ok (.bipush (-2), 2) := by decide +kernel
set_option maxRecDepth 20000 in
theorem dX11_see_45 : decode cX11_see 45 = .ok (.ireturn, 1) := by decide +kernel
set_option maxRecDepth 20000 in
theorem dX11_see_46 : decode cX11_see 46 = .ok (.aload_n 0, 1) := by decide +kernel
set_option maxRecDepth 20000 in
theorem dX11_see_47 : decode cX11_see 47 = .ok (.getfield 16, 3) := by decide +kernel
set_option maxRecDepth 20000 in
theorem dX11_see_50 : decode cX11_see 50 = .ok (.iload_n 1, 1) := by decide +kernel
set_option maxRecDepth 20000 in
theorem dX11_see_51 : decode cX11_see 51 = .ok (.iload_n 2, 1) := by decide +kernel
set_option maxRecDepth 20000 in
theorem dX11_see_52 : decode cX11_see 52 = .ok (.iload_n 3, 1) := by decide +kernel
set_option maxRecDepth 20000 in
theorem dX11_see_53 : decode cX11_see 53 = .ok (.invokevirtual 224, 3) := by decide +kernel
set_option maxRecDepth 20000 in
theorem dX11_see_56 : decode cX11_see 56 = .ok (.ireturn, 1) := by decide +kernel
set_option maxRecDepth 20000 in
theorem kt_X11_see_0 (g : gx_T) : ∀ q ∈ k_X11_see_0, gx_E g gc_md RX11 cX11_see 4 (some .int) "see" q.1 q.2 := List.forall_mem_cons.mpr ⟨(gs_iload_n dX11_see_0 rfl), List.forall_mem_cons.mpr ⟨
  (gs_iconst dX11_see_1 rfl), List.forall_mem_cons.mpr ⟨
  (gs_icmp_ne dX11_see_2 rfl), List.forall_mem_cons.mpr ⟨
  (gs_aload_n dX11_see_5 rfl), List.forall_mem_cons.mpr ⟨
  (gs_gf (ref := "GriefCranes") dX11_see_6 (gx_mem 374 (by decide +kernel) (by decide +kernel)) (Or.inl rfl) gf_11_3), List.forall_mem_cons.mpr ⟨
  (gs_cv dX11_see_9 (fun q hq => by
      simp only [List.mem_cons, List.not_mem_nil, or_false] at hq
      subst hq
      exact Or.inl ⟨_, rfl, by decide, by decide +kernel, by decide +kernel, List.forall_mem_cons.mpr ⟨gx_mem 781 (by decide +kernel) (by decide +kernel), List.forall_mem_cons.mpr ⟨gx_mem 782 (by decide +kernel) (by decide +kernel), List.forall_mem_cons.mpr ⟨gx_mem 783 (by decide +kernel) (by decide +kernel), List.forall_mem_cons.mpr ⟨gx_mem 85 (by decide +kernel) (by decide +kernel), List.forall_mem_cons.mpr ⟨cw_784, fun _ h => absurd h List.not_mem_nil⟩⟩⟩⟩⟩⟩)), List.forall_mem_cons.mpr ⟨
  (gs_ri dX11_see_12), List.forall_mem_cons.mpr ⟨
  (gs_aload_n dX11_see_13 rfl), List.forall_mem_cons.mpr ⟨
  (gs_gf (ref := "GriefCranes") dX11_see_14 (gx_mem 371 (by decide +kernel) (by decide +kernel)) (Or.inl rfl) gf_11_0), List.forall_mem_cons.mpr ⟨
  (gs_iload_n dX11_see_17 rfl), List.forall_mem_cons.mpr ⟨
  (gs_cv dX11_see_18 (fun q hq => by
      simp only [List.mem_cons, List.not_mem_nil, or_false] at hq
      subst hq
      exact Or.inl ⟨_, rfl, by decide, by decide +kernel, by decide +kernel, List.forall_mem_cons.mpr ⟨gx_mem 449 (by decide +kernel) (by decide +kernel), List.forall_mem_cons.mpr ⟨gx_mem 450 (by decide +kernel) (by decide +kernel), List.forall_mem_cons.mpr ⟨gx_mem 451 (by decide +kernel) (by decide +kernel), List.forall_mem_cons.mpr ⟨gx_mem 95 (by decide +kernel) (by decide +kernel), List.forall_mem_cons.mpr ⟨cw_452, fun _ h => absurd h List.not_mem_nil⟩⟩⟩⟩⟩⟩)), List.forall_mem_cons.mpr ⟨
  (gs_if_ne dX11_see_21 rfl), List.forall_mem_cons.mpr ⟨
  (gs_iconst dX11_see_24 rfl), List.forall_mem_cons.mpr ⟨
  (gs_ri dX11_see_25), List.forall_mem_cons.mpr ⟨
  (gs_iload_n dX11_see_26 rfl), List.forall_mem_cons.mpr ⟨
  (gs_bipush dX11_see_27 rfl), List.forall_mem_cons.mpr ⟨
  (gs_cs dX11_see_29 (md_98) (List.forall_mem_cons.mpr ⟨gx_mem 427 (by decide +kernel) (by decide +kernel), List.forall_mem_cons.mpr ⟨gx_mem 428 (by decide +kernel) (by decide +kernel), List.forall_mem_cons.mpr ⟨gx_mem 84 (by decide +kernel) (by decide +kernel), List.forall_mem_cons.mpr ⟨cw_429, fun _ h => absurd h List.not_mem_nil⟩⟩⟩⟩) (by decide +kernel) (by decide)), List.forall_mem_cons.mpr ⟨
  (gs_if_eq dX11_see_32 rfl), List.forall_mem_cons.mpr ⟨
  (gs_iload_n dX11_see_35 rfl), List.forall_mem_cons.mpr ⟨
  (gs_iconst dX11_see_36 rfl), List.forall_mem_cons.mpr ⟨
  (gs_cs dX11_see_37 (md_98) (List.forall_mem_cons.mpr ⟨gx_mem 427 (by decide +kernel) (by decide +kernel), List.forall_mem_cons.mpr ⟨gx_mem 428 (by decide +kernel) (by decide +kernel), List.forall_mem_cons.mpr ⟨gx_mem 84 (by decide +kernel) (by decide +kernel), List.forall_mem_cons.mpr ⟨cw_429, fun _ h => absurd h List.not_mem_nil⟩⟩⟩⟩) (by decide +kernel) (by decide)), List.forall_mem_cons.mpr ⟨
  (gs_if_ne dX11_see_40 rfl), List.forall_mem_cons.mpr ⟨
  (gs_bipush dX11_see_43 rfl), List.forall_mem_cons.mpr ⟨
  (gs_ri dX11_see_45), List.forall_mem_cons.mpr ⟨
  (gs_aload_n dX11_see_46 rfl), List.forall_mem_cons.mpr ⟨
  (gs_gf (ref := "GriefCranes") dX11_see_47 (gx_mem 374 (by decide +kernel) (by decide +kernel)) (Or.inl rfl) gf_11_3), List.forall_mem_cons.mpr ⟨
  (gs_iload_n dX11_see_50 rfl), List.forall_mem_cons.mpr ⟨
  (gs_iload_n dX11_see_51 rfl), List.forall_mem_cons.mpr ⟨
  (gs_iload_n dX11_see_52 rfl), List.forall_mem_cons.mpr ⟨
  (gs_cv dX11_see_53 (fun q hq => by
      simp only [List.mem_cons, List.not_mem_nil, or_false] at hq
      subst hq
      exact Or.inl ⟨_, rfl, by decide, by decide +kernel, by decide +kernel, List.forall_mem_cons.mpr ⟨gx_mem 785 (by decide +kernel) (by decide +kernel), List.forall_mem_cons.mpr ⟨gx_mem 786 (by decide +kernel) (by decide +kernel), List.forall_mem_cons.mpr ⟨gx_mem 787 (by decide +kernel) (by decide +kernel), List.forall_mem_cons.mpr ⟨gx_mem 85 (by decide +kernel) (by decide +kernel), List.forall_mem_cons.mpr ⟨cw_788, fun _ h => absurd h List.not_mem_nil⟩⟩⟩⟩⟩⟩)), List.forall_mem_cons.mpr ⟨
  (gs_ri dX11_see_56), fun _ h => absurd h List.not_mem_nil⟩⟩⟩⟩⟩⟩⟩⟩⟩⟩⟩⟩⟩⟩⟩⟩⟩⟩⟩⟩⟩⟩⟩⟩⟩⟩⟩⟩⟩⟩⟩
theorem kt_X11_see (g : gx_T) : ∀ q ∈ k_X11_see, gx_E g gc_md RX11 cX11_see 4 (some .int) "see" q.1 q.2 := kt_X11_see_0 g
set_option maxRecDepth 20000 in
theorem dX11_can_0 : decode cX11_can 0 = .ok (.aload_n 0, 1) := by decide +kernel
set_option maxRecDepth 20000 in
theorem dX11_can_1 : decode cX11_can 1 = .ok (.getfield 98, 3) := by decide +kernel
set_option maxRecDepth 20000 in
theorem dX11_can_4 : decode cX11_can 4 = .ok (.iload_n 1, 1) := by decide +kernel
set_option maxRecDepth 20000 in
theorem dX11_can_5 : decode cX11_can 5 = .ok (.invokevirtual 119, 3) := by decide +kernel
set_option maxRecDepth 20000 in
theorem dX11_can_8 : decode cX11_can 8 = .ok (.ifCond .eq 11, 3) := by decide +kernel
set_option maxRecDepth 20000 in
theorem dX11_can_11 : decode cX11_can 11 = .ok (.iload_n 2, 1) := by decide +kernel
set_option maxRecDepth 20000 in
theorem dX11_can_12 : decode cX11_can 12 = .ok (.iconst 1, 1) := by decide +kernel
set_option maxRecDepth 20000 in
theorem dX11_can_13 : decode cX11_can 13 = .ok (.invokestatic 108, 3) := by decide +kernel
set_option maxRecDepth 20000 in
theorem dX11_can_16 : decode cX11_can 16 = .ok (.ifCond .ne 5, 3) := by decide +kernel
set_option maxRecDepth 20000 in
theorem dX11_can_19 : decode cX11_can 19 = .ok (.iconst (-1), 1) := by decide +kernel
set_option maxRecDepth 20000 in
theorem dX11_can_20 : decode cX11_can 20 = .ok (.ireturn, 1) := by decide +kernel
set_option maxRecDepth 20000 in
theorem dX11_can_21 : decode cX11_can 21 = .ok (.aload_n 0, 1) := by decide +kernel
set_option maxRecDepth 20000 in
theorem dX11_can_22 : decode cX11_can 22 = .ok (.iconst (-1), 1) := by decide +kernel
set_option maxRecDepth 20000 in
theorem dX11_can_23 : decode cX11_can 23 = .ok (.iload_n 1, 1) := by decide +kernel
set_option maxRecDepth 20000 in
theorem dX11_can_24 : decode cX11_can 24 = .ok (.iload_n 2, 1) := by decide +kernel
set_option maxRecDepth 20000 in
theorem dX11_can_25 : decode cX11_can 25 = .ok (.iconst 1, 1) := by decide +kernel
set_option maxRecDepth 20000 in
theorem dX11_can_26 : decode cX11_can 26 = .ok (.if_icmp .ne 7, 3) := by decide +kernel
set_option maxRecDepth 20000 in
theorem dX11_can_29 : decode cX11_can 29 = .ok (.iconst 1, 1) := by decide +kernel
set_option maxRecDepth 20000 in
theorem dX11_can_30 : decode cX11_can 30 = .ok (.goto 4, 3) := by decide +kernel
set_option maxRecDepth 20000 in
theorem dX11_can_33 : decode cX11_can 33 = .ok (.iconst 0, 1) := by decide +kernel
set_option maxRecDepth 20000 in
theorem dX11_can_34 : decode cX11_can 34 = .ok (.invokevirtual 177, 3) := by decide +kernel
set_option maxRecDepth 20000 in
theorem dX11_can_37 : decode cX11_can 37 = .ok (.ireturn, 1) := by decide +kernel
set_option maxRecDepth 20000 in
theorem kt_X11_can_0 (g : gx_T) : ∀ q ∈ k_X11_can_0, gx_E g gc_md RX11 cX11_can 3 (some .int) "can" q.1 q.2 := List.forall_mem_cons.mpr ⟨(gs_aload_n dX11_can_0 rfl), List.forall_mem_cons.mpr ⟨
  (gs_gf (ref := "GriefCranes") dX11_can_1 (gx_mem 371 (by decide +kernel) (by decide +kernel)) (Or.inl rfl) gf_11_0), List.forall_mem_cons.mpr ⟨
  (gs_iload_n dX11_can_4 rfl), List.forall_mem_cons.mpr ⟨
  (gs_cv dX11_can_5 (fun q hq => by
      simp only [List.mem_cons, List.not_mem_nil, or_false] at hq
      subst hq
      exact Or.inl ⟨_, rfl, by decide, by decide +kernel, by decide +kernel, List.forall_mem_cons.mpr ⟨gx_mem 438 (by decide +kernel) (by decide +kernel), List.forall_mem_cons.mpr ⟨gx_mem 439 (by decide +kernel) (by decide +kernel), List.forall_mem_cons.mpr ⟨gx_mem 440 (by decide +kernel) (by decide +kernel), List.forall_mem_cons.mpr ⟨gx_mem 95 (by decide +kernel) (by decide +kernel), List.forall_mem_cons.mpr ⟨cw_441, fun _ h => absurd h List.not_mem_nil⟩⟩⟩⟩⟩⟩)), List.forall_mem_cons.mpr ⟨
  (gs_if_eq dX11_can_8 rfl), List.forall_mem_cons.mpr ⟨
  (gs_iload_n dX11_can_11 rfl), List.forall_mem_cons.mpr ⟨
  (gs_iconst dX11_can_12 rfl), List.forall_mem_cons.mpr ⟨
  (gs_cs dX11_can_13 (md_98) (List.forall_mem_cons.mpr ⟨gx_mem 427 (by decide +kernel) (by decide +kernel), List.forall_mem_cons.mpr ⟨gx_mem 428 (by decide +kernel) (by decide +kernel), List.forall_mem_cons.mpr ⟨gx_mem 84 (by decide +kernel) (by decide +kernel), List.forall_mem_cons.mpr ⟨cw_429, fun _ h => absurd h List.not_mem_nil⟩⟩⟩⟩) (by decide +kernel) (by decide)), List.forall_mem_cons.mpr ⟨
  (gs_if_ne dX11_can_16 rfl), List.forall_mem_cons.mpr ⟨
  (gs_iconst dX11_can_19 rfl), List.forall_mem_cons.mpr ⟨
  (gs_ri dX11_can_20), List.forall_mem_cons.mpr ⟨
  (gs_aload_n dX11_can_21 rfl), List.forall_mem_cons.mpr ⟨
  (gs_iconst dX11_can_22 rfl), List.forall_mem_cons.mpr ⟨
  (gs_iload_n dX11_can_23 rfl), List.forall_mem_cons.mpr ⟨
  (gs_iload_n dX11_can_24 rfl), List.forall_mem_cons.mpr ⟨
  (gs_iconst dX11_can_25 rfl), List.forall_mem_cons.mpr ⟨
  (gs_icmp_ne dX11_can_26 rfl), List.forall_mem_cons.mpr ⟨
  (gs_iconst dX11_can_29 rfl), List.forall_mem_cons.mpr ⟨
  (gs_goto dX11_can_30 rfl), List.forall_mem_cons.mpr ⟨
  (gs_iconst dX11_can_33 rfl), List.forall_mem_cons.mpr ⟨
  (gs_cv dX11_can_34 (fun q hq => by
      simp only [List.mem_cons, List.not_mem_nil, or_false] at hq
      subst hq
      exact Or.inl ⟨_, rfl, by decide, by decide +kernel, by decide +kernel, List.forall_mem_cons.mpr ⟨gx_mem 545 (by decide +kernel) (by decide +kernel), List.forall_mem_cons.mpr ⟨gx_mem 547 (by decide +kernel) (by decide +kernel), List.forall_mem_cons.mpr ⟨gx_mem 5 (by decide +kernel) (by decide +kernel), List.forall_mem_cons.mpr ⟨gx_mem 84 (by decide +kernel) (by decide +kernel), List.forall_mem_cons.mpr ⟨cw_548, fun _ h => absurd h List.not_mem_nil⟩⟩⟩⟩⟩⟩)), List.forall_mem_cons.mpr ⟨
  (gs_ri dX11_can_37), fun _ h => absurd h List.not_mem_nil⟩⟩⟩⟩⟩⟩⟩⟩⟩⟩⟩⟩⟩⟩⟩⟩⟩⟩⟩⟩⟩⟩
theorem kt_X11_can (g : gx_T) : ∀ q ∈ k_X11_can, gx_E g gc_md RX11 cX11_can 3 (some .int) "can" q.1 q.2 := kt_X11_can_0 g
set_option maxRecDepth 20000 in
theorem dX11_odds_0 : decode cX11_odds 0 = .ok (.aload_n 0, 1) := by decide +kernel
set_option maxRecDepth 20000 in
theorem dX11_odds_1 : decode cX11_odds 1 = .ok (.getfield 98, 3) := by decide +kernel
set_option maxRecDepth 20000 in
theorem dX11_odds_4 : decode cX11_odds 4 = .ok (.iload_n 1, 1) := by decide +kernel
set_option maxRecDepth 20000 in
theorem dX11_odds_5 : decode cX11_odds 5 = .ok (.invokevirtual 140, 3) := by decide +kernel
set_option maxRecDepth 20000 in
theorem dX11_odds_8 : decode cX11_odds 8 = .ok (.ifCond .eq 22, 3) := by decide +kernel
set_option maxRecDepth 20000 in
theorem dX11_odds_11 : decode cX11_odds 11 = .ok (.iload_n 2, 1) := by decide +kernel
set_option maxRecDepth 20000 in
theorem dX11_odds_12 : decode cX11_odds 12 = .ok (.iconst 1, 1) := by decide +kernel
set_option maxRecDepth 20000 in
theorem dX11_odds_13 : decode cX11_odds 13 = .ok (.if_icmp .lt 17, 3) := by decide +kernel
set_option maxRecDepth 20000 in
theorem dX11_odds_16 : decode cX11_odds 16 = .ok (.iload_n 2, 1) := by decide +kernel
set_option maxRecDepth 20000 in
theorem dX11_odds_17 : decode cX11_odds 17 = .ok (.bipush 20, 2) := by decide +kernel
set_option maxRecDepth 20000 in
theorem dX11_odds_19 : decode cX11_odds 19 = .ok (.if_icmp .gt 11, 3) := by decide +kernel
set_option maxRecDepth 20000 in
theorem dX11_odds_22 : decode cX11_odds 22 = .ok (.iload_n 3, 1) := by decide +kernel
set_option maxRecDepth 20000 in
theorem dX11_odds_23 : decode cX11_odds 23 = .ok (.iconst 1, 1) := by decide +kernel
set_option maxRecDepth 20000 in
theorem dX11_odds_24 : decode cX11_odds 24 = .ok (.invokestatic 108, 3) := by decide +kernel
set_option maxRecDepth 20000 in
theorem dX11_odds_27 : decode cX11_odds 27 = .ok (.ifCond .ne 7, 3) := by decide +kernel
set_option maxRecDepth 20000 in
theorem dX11_odds_30 : decode cX11_odds 30 = .ok (.ldc2_w 228, 3) := by decide +kernel
set_option maxRecDepth 20000 in
theorem dX11_odds_33 : decode cX11_odds 33 = .ok (.lreturn, 1) := by decide +kernel
set_option maxRecDepth 20000 in
theorem dX11_odds_34 : decode cX11_odds 34 = .ok (.iconst 0, 1) := by decide +kernel
set_option maxRecDepth 20000 in
theorem dX11_odds_35 : decode cX11_odds 35 = .ok (.istore 4, 2) := by decide +kernel
set_option maxRecDepth 20000 in
theorem dX11_odds_37 : decode cX11_odds 37 = .ok (.iconst 0, 1) := by decide +kernel
set_option maxRecDepth 20000 in
theorem dX11_odds_38 : decode cX11_odds 38 = .ok (.istore 5, 2) := by decide +kernel
set_option maxRecDepth 20000 in
theorem dX11_odds_40 : decode cX11_odds 40 = .ok (.iload 5, 2) := by decide +kernel
set_option maxRecDepth 20000 in
theorem dX11_odds_42 : decode cX11_odds 42 = .ok (.bipush 9, 2) := by decide +kernel
set_option maxRecDepth 20000 in
theorem dX11_odds_44 : decode cX11_odds 44 = .ok (.if_icmp .gt 62, 3) := by decide +kernel
set_option maxRecDepth 20000 in
theorem dX11_odds_47 : decode cX11_odds 47 = .ok (.aload_n 0, 1) := by decide +kernel
set_option maxRecDepth 20000 in
theorem dX11_odds_48 : decode cX11_odds 48 = .ok (.getfield 102, 3) := by decide +kernel
set_option maxRecDepth 20000 in
theorem dX11_odds_51 : decode cX11_odds 51 = .ok (.aload_n 0, 1) := by decide +kernel
set_option maxRecDepth 20000 in
theorem dX11_odds_52 : decode cX11_odds 52 = .ok (.getfield 98, 3) := by decide +kernel
set_option maxRecDepth 20000 in
theorem dX11_odds_55 : decode cX11_odds 55 = .ok (.invokevirtual 167, 3) := by decide +kernel
set_option maxRecDepth 20000 in
theorem dX11_odds_58 : decode cX11_odds 58 = .ok (.aload_n 0, 1) := by decide +kernel
set_option maxRecDepth 20000 in
theorem dX11_odds_59 : decode cX11_odds 59 = .ok (.getfield 102, 3) := by decide +kernel
set_option maxRecDepth 20000 in
theorem dX11_odds_62 : decode cX11_odds 62 = .ok (.getfield 181, 3) := by decide +kernel
set_option maxRecDepth 20000 in
theorem dX11_odds_65 : decode cX11_odds 65 = .ok (.aload_n 0, 1) := by decide +kernel
set_option maxRecDepth 20000 in
theorem dX11_odds_66 : decode cX11_odds 66 = .ok (.getfield 98, 3) := by decide +kernel
set_option maxRecDepth 20000 in
theorem dX11_odds_69 : decode cX11_odds 69 = .ok (.getfield 196, 3) := by decide +kernel
set_option maxRecDepth 20000 in
theorem dX11_odds_72 : decode cX11_odds 72 = .ok (.iconst 3, 1) := by decide +kernel
set_option maxRecDepth 20000 in
theorem dX11_odds_73 : decode cX11_odds 73 = .ok (.iand, 1) := by decide +kernel
set_option maxRecDepth 20000 in
theorem dX11_odds_74 : decode cX11_odds 74 = .ok (.iload 5, 2) := by decide +kernel
set_option maxRecDepth 20000 in
theorem dX11_odds_76 : decode cX11_odds 76 = .ok (.iastore, 1) := by decide +kernel
set_option maxRecDepth 20000 in
theorem dX11_odds_77 : decode cX11_odds 77 = .ok (.aload_n 0, 1) := by decide +kernel
set_option maxRecDepth 20000 in
theorem dX11_odds_78 : decode cX11_odds 78 = .ok (.getfield 102, 3) := by decide +kernel
set_option maxRecDepth 20000 in
theorem dX11_odds_81 : decode cX11_odds 81 = .ok (.iload_n 2, 1) := by decide +kernel
set_option maxRecDepth 20000 in
theorem dX11_odds_82 : decode cX11_odds 82 = .ok (.invokevirtual 208, 3) := by decide +kernel
set_option maxRecDepth 20000 in
theorem dX11_odds_85 : decode cX11_odds 85 = .ok (.aload_n 0, 1) := by decide +kernel
set_option maxRecDepth 20000 in
theorem dX11_odds_86 : decode cX11_odds 86 = .ok (.getfield 102, 3) := by decide +kernel
set_option maxRecDepth 20000 in
theorem dX11_odds_89 : decode cX11_odds 89 = .ok (.iload_n 1, 1) := by decide +kernel
set_option maxRecDepth 20000 in
theorem dX11_odds_90 : decode cX11_odds 90 = .ok (.iconst 2, 1) := by decide +kernel
set_option maxRecDepth 20000 in
theorem dX11_odds_91 : decode cX11_odds 91 = .ok (.invokevirtual 230, 3) := by decide +kernel
set_option maxRecDepth 20000 in
theorem dX11_odds_94 : decode cX11_odds 94 = .ok (.ifCond .eq 6, 3) := by decide +kernel
set_option maxRecDepth 20000 in
theorem dX11_odds_97 : decode cX11_odds 97 = .ok (.iinc 4 1, 3) := by decide +kernel
set_option maxRecDepth 20000 in
theorem dX11_odds_100 : decode cX11_odds 100 = .ok (.iinc 5 1, 3) := by decide +kernel
set_option maxRecDepth 20000 in
theorem dX11_odds_103 : decode cX11_odds 103 = .ok (.goto (-63), 3) := by decide +kernel
set_option maxRecDepth 20000 in
theorem dX11_odds_106 : decode cX11_odds 106 = .ok (.iload 4, 2) := by decide +kernel
set_option maxRecDepth 20000 in
theorem dX11_odds_108 : decode cX11_odds 108 = .ok (.bipush 10, 2) := by decide +kernel
set_option maxRecDepth 20000 in
theorem dX11_odds_110 : decode cX11_odds 110 = .ok (.iload_n 3, 1) := by decide +kernel
set_option maxRecDepth 20000 in
theorem dX11_odds_111 : decode cX11_odds 111 = .ok (.invokestatic 233, 3) := by decide +kernel
set_option maxRecDepth 20000 in
theorem dX11_odds_114 : decode cX11_odds 114 = .ok (.lreturn, 1) := by decide +kernel
set_option maxRecDepth 20000 in
theorem kt_X11_odds_0 (g : gx_T) : ∀ q ∈ k_X11_odds_0, gx_E g gc_md RX11 cX11_odds 6 (some .long) "odds" q.1 q.2 := List.forall_mem_cons.mpr ⟨(gs_aload_n dX11_odds_0 rfl), List.forall_mem_cons.mpr ⟨
  (gs_gf (ref := "GriefCranes") dX11_odds_1 (gx_mem 371 (by decide +kernel) (by decide +kernel)) (Or.inl rfl) gf_11_0), List.forall_mem_cons.mpr ⟨
  (gs_iload_n dX11_odds_4 rfl), List.forall_mem_cons.mpr ⟨
  (gs_cv dX11_odds_5 (fun q hq => by
      simp only [List.mem_cons, List.not_mem_nil, or_false] at hq
      subst hq
      exact Or.inl ⟨_, rfl, by decide, by decide +kernel, by decide +kernel, List.forall_mem_cons.mpr ⟨gx_mem 449 (by decide +kernel) (by decide +kernel), List.forall_mem_cons.mpr ⟨gx_mem 450 (by decide +kernel) (by decide +kernel), List.forall_mem_cons.mpr ⟨gx_mem 451 (by decide +kernel) (by decide +kernel), List.forall_mem_cons.mpr ⟨gx_mem 95 (by decide +kernel) (by decide +kernel), List.forall_mem_cons.mpr ⟨cw_452, fun _ h => absurd h List.not_mem_nil⟩⟩⟩⟩⟩⟩)), List.forall_mem_cons.mpr ⟨
  (gs_if_eq dX11_odds_8 rfl), List.forall_mem_cons.mpr ⟨
  (gs_iload_n dX11_odds_11 rfl), List.forall_mem_cons.mpr ⟨
  (gs_iconst dX11_odds_12 rfl), List.forall_mem_cons.mpr ⟨
  (gs_icmp_lt dX11_odds_13 rfl), List.forall_mem_cons.mpr ⟨
  (gs_iload_n dX11_odds_16 rfl), List.forall_mem_cons.mpr ⟨
  (gs_bipush dX11_odds_17 rfl), List.forall_mem_cons.mpr ⟨
  (gs_icmp_gt dX11_odds_19 rfl), List.forall_mem_cons.mpr ⟨
  (gs_iload_n dX11_odds_22 rfl), List.forall_mem_cons.mpr ⟨
  (gs_iconst dX11_odds_23 rfl), List.forall_mem_cons.mpr ⟨
  (gs_cs dX11_odds_24 (md_98) (List.forall_mem_cons.mpr ⟨gx_mem 427 (by decide +kernel) (by decide +kernel), List.forall_mem_cons.mpr ⟨gx_mem 428 (by decide +kernel) (by decide +kernel), List.forall_mem_cons.mpr ⟨gx_mem 84 (by decide +kernel) (by decide +kernel), List.forall_mem_cons.mpr ⟨cw_429, fun _ h => absurd h List.not_mem_nil⟩⟩⟩⟩) (by decide +kernel) (by decide)), List.forall_mem_cons.mpr ⟨
  (gs_if_ne dX11_odds_27 rfl), List.forall_mem_cons.mpr ⟨
  (gs_ldc2 dX11_odds_30 (gx_mem 797 (by decide +kernel) (by decide +kernel))), List.forall_mem_cons.mpr ⟨
  (gs_rl dX11_odds_33), List.forall_mem_cons.mpr ⟨
  (gs_iconst dX11_odds_34 rfl), List.forall_mem_cons.mpr ⟨
  (gs_istore dX11_odds_35), List.forall_mem_cons.mpr ⟨
  (gs_iconst dX11_odds_37 rfl), List.forall_mem_cons.mpr ⟨
  (gs_istore dX11_odds_38), List.forall_mem_cons.mpr ⟨
  (gs_iload dX11_odds_40), List.forall_mem_cons.mpr ⟨
  (gs_bipush dX11_odds_42 rfl), List.forall_mem_cons.mpr ⟨
  (gs_icmp_gt dX11_odds_44 rfl), List.forall_mem_cons.mpr ⟨
  (gs_aload_n dX11_odds_47 rfl), List.forall_mem_cons.mpr ⟨
  (gs_gf (ref := "GriefCranes") dX11_odds_48 (gx_mem 372 (by decide +kernel) (by decide +kernel)) (Or.inl rfl) gf_11_1), List.forall_mem_cons.mpr ⟨
  (gs_aload_n dX11_odds_51 rfl), List.forall_mem_cons.mpr ⟨
  (gs_gf (ref := "GriefCranes") dX11_odds_52 (gx_mem 371 (by decide +kernel) (by decide +kernel)) (Or.inl rfl) gf_11_0), List.forall_mem_cons.mpr ⟨
  (gs_cv dX11_odds_55 (fun q hq => by
      simp only [List.mem_cons, List.not_mem_nil, or_false] at hq
      subst hq
      exact Or.inl ⟨_, rfl, by decide, by decide +kernel, by decide +kernel, List.forall_mem_cons.mpr ⟨gx_mem 510 (by decide +kernel) (by decide +kernel), List.forall_mem_cons.mpr ⟨gx_mem 511 (by decide +kernel) (by decide +kernel), List.forall_mem_cons.mpr ⟨gx_mem 512 (by decide +kernel) (by decide +kernel), List.forall_mem_cons.mpr ⟨gx_mem 95 (by decide +kernel) (by decide +kernel), List.forall_mem_cons.mpr ⟨cw_513, fun _ h => absurd h List.not_mem_nil⟩⟩⟩⟩⟩⟩)), List.forall_mem_cons.mpr ⟨
  (gs_aload_n dX11_odds_58 rfl), List.forall_mem_cons.mpr ⟨
  (gs_gf (ref := "GriefCranes") dX11_odds_59 (gx_mem 372 (by decide +kernel) (by decide +kernel)) (Or.inl rfl) gf_11_1), List.forall_mem_cons.mpr ⟨
  (gs_gf (ref := "GriefCranes$Yard") dX11_odds_62 (gx_mem 309 (by decide +kernel) (by decide +kernel)) (Or.inl rfl) gf_10_3), fun _ h => absurd h List.not_mem_nil⟩⟩⟩⟩⟩⟩⟩⟩⟩⟩⟩⟩⟩⟩⟩⟩⟩⟩⟩⟩⟩⟩⟩⟩⟩⟩⟩⟩⟩⟩⟩⟩
set_option maxRecDepth 20000 in
theorem kt_X11_odds_1 (g : gx_T) : ∀ q ∈ k_X11_odds_1, gx_E g gc_md RX11 cX11_odds 6 (some .long) "odds" q.1 q.2 := List.forall_mem_cons.mpr ⟨(gs_aload_n dX11_odds_65 rfl), List.forall_mem_cons.mpr ⟨
  (gs_gf (ref := "GriefCranes") dX11_odds_66 (gx_mem 371 (by decide +kernel) (by decide +kernel)) (Or.inl rfl) gf_11_0), List.forall_mem_cons.mpr ⟨
  (gs_gf (ref := "GriefCranes$Yard") dX11_odds_69 (gx_mem 306 (by decide +kernel) (by decide +kernel)) (Or.inl rfl) gf_10_2), List.forall_mem_cons.mpr ⟨
  (gs_iconst dX11_odds_72 rfl), List.forall_mem_cons.mpr ⟨
  (gs_iand dX11_odds_73), List.forall_mem_cons.mpr ⟨
  (gs_iload dX11_odds_74), List.forall_mem_cons.mpr ⟨
  (gs_iastore dX11_odds_76), List.forall_mem_cons.mpr ⟨
  (gs_aload_n dX11_odds_77 rfl), List.forall_mem_cons.mpr ⟨
  (gs_gf (ref := "GriefCranes") dX11_odds_78 (gx_mem 372 (by decide +kernel) (by decide +kernel)) (Or.inl rfl) gf_11_1), List.forall_mem_cons.mpr ⟨
  (gs_iload_n dX11_odds_81 rfl), List.forall_mem_cons.mpr ⟨
  (gs_cv dX11_odds_82 (fun q hq => by
      simp only [List.mem_cons, List.not_mem_nil, or_false] at hq
      subst hq
      exact Or.inl ⟨_, rfl, by decide, by decide +kernel, by decide +kernel, List.forall_mem_cons.mpr ⟨gx_mem 526 (by decide +kernel) (by decide +kernel), List.forall_mem_cons.mpr ⟨gx_mem 527 (by decide +kernel) (by decide +kernel), List.forall_mem_cons.mpr ⟨gx_mem 528 (by decide +kernel) (by decide +kernel), List.forall_mem_cons.mpr ⟨gx_mem 95 (by decide +kernel) (by decide +kernel), List.forall_mem_cons.mpr ⟨cw_529, fun _ h => absurd h List.not_mem_nil⟩⟩⟩⟩⟩⟩)), List.forall_mem_cons.mpr ⟨
  (gs_aload_n dX11_odds_85 rfl), List.forall_mem_cons.mpr ⟨
  (gs_gf (ref := "GriefCranes") dX11_odds_86 (gx_mem 372 (by decide +kernel) (by decide +kernel)) (Or.inl rfl) gf_11_1), List.forall_mem_cons.mpr ⟨
  (gs_iload_n dX11_odds_89 rfl), List.forall_mem_cons.mpr ⟨
  (gs_iconst dX11_odds_90 rfl), List.forall_mem_cons.mpr ⟨
  (gs_cv dX11_odds_91 (fun q hq => by
      simp only [List.mem_cons, List.not_mem_nil, or_false] at hq
      subst hq
      exact Or.inl ⟨_, rfl, by decide, by decide +kernel, by decide +kernel, List.forall_mem_cons.mpr ⟨gx_mem 521 (by decide +kernel) (by decide +kernel), List.forall_mem_cons.mpr ⟨gx_mem 522 (by decide +kernel) (by decide +kernel), List.forall_mem_cons.mpr ⟨gx_mem 523 (by decide +kernel) (by decide +kernel), List.forall_mem_cons.mpr ⟨gx_mem 95 (by decide +kernel) (by decide +kernel), List.forall_mem_cons.mpr ⟨cw_524, fun _ h => absurd h List.not_mem_nil⟩⟩⟩⟩⟩⟩)), List.forall_mem_cons.mpr ⟨
  (gs_if_eq dX11_odds_94 rfl), List.forall_mem_cons.mpr ⟨
  (gs_iinc dX11_odds_97), List.forall_mem_cons.mpr ⟨
  (gs_iinc dX11_odds_100), List.forall_mem_cons.mpr ⟨
  (gs_goto dX11_odds_103 rfl), List.forall_mem_cons.mpr ⟨
  (gs_iload dX11_odds_106), List.forall_mem_cons.mpr ⟨
  (gs_bipush dX11_odds_108 rfl), List.forall_mem_cons.mpr ⟨
  (gs_iload_n dX11_odds_110 rfl), List.forall_mem_cons.mpr ⟨
  (gs_cs dX11_odds_111 (md_100) (List.forall_mem_cons.mpr ⟨gx_mem 798 (by decide +kernel) (by decide +kernel), List.forall_mem_cons.mpr ⟨gx_mem 799 (by decide +kernel) (by decide +kernel), List.forall_mem_cons.mpr ⟨gx_mem 84 (by decide +kernel) (by decide +kernel), List.forall_mem_cons.mpr ⟨cw_800, fun _ h => absurd h List.not_mem_nil⟩⟩⟩⟩) (by decide +kernel) (by decide)), List.forall_mem_cons.mpr ⟨
  (gs_rl dX11_odds_114), fun _ h => absurd h List.not_mem_nil⟩⟩⟩⟩⟩⟩⟩⟩⟩⟩⟩⟩⟩⟩⟩⟩⟩⟩⟩⟩⟩⟩⟩⟩⟩
theorem kt_X11_odds (g : gx_T) : ∀ q ∈ k_X11_odds, gx_E g gc_md RX11 cX11_odds 6 (some .long) "odds" q.1 q.2 := List.forall_mem_append.mpr ⟨kt_X11_odds_0 g, kt_X11_odds_1 g⟩
set_option maxRecDepth 20000 in
theorem dX11_mean_0 : decode cX11_mean 0 = .ok (.aload_n 0, 1) := by decide +kernel
set_option maxRecDepth 20000 in
theorem dX11_mean_1 : decode cX11_mean 1 = .ok (.getfield 98, 3) := by decide +kernel
set_option maxRecDepth 20000 in
theorem dX11_mean_4 : decode cX11_mean 4 = .ok (.iconst 0, 1) := by decide +kernel
set_option maxRecDepth 20000 in
theorem dX11_mean_5 : decode cX11_mean 5 = .ok (.invokevirtual 211, 3) := by decide +kernel
set_option maxRecDepth 20000 in
theorem dX11_mean_8 : decode cX11_mean 8 = .ok (.istore_n 2, 1) := by decide +kernel
set_option maxRecDepth 20000 in
theorem dX11_mean_9 : decode cX11_mean 9 = .ok (.iload_n 2, 1) := by decide +kernel
set_option maxRecDepth 20000 in
theorem dX11_mean_10 : decode cX11_mean 10 = .ok (.ifCond .eq 11, 3) := by decide +kernel
set_option maxRecDepth 20000 in
theorem dX11_mean_13 : decode cX11_mean 13 = .ok (.iload_n 1, 1) := by decide +kernel
set_option maxRecDepth 20000 in
theorem dX11_mean_14 : decode cX11_mean 14 = .ok (.iconst 1, 1) := by decide +kernel
set_option maxRecDepth 20000 in
theorem dX11_mean_15 : decode cX11_mean 15 = .ok (.invokestatic 108, 3) := by decide +kernel
set_option maxRecDepth 20000 in
theorem dX11_mean_18 : decode cX11_mean 18 = .ok (.ifCond .ne 7, 3) := by decide +kernel
set_option maxRecDepth 20000 in
theorem dX11_mean_21 : decode cX11_mean 21 = .ok (.ldc2_w 228, 3) := by decide +kernel
set_option maxRecDepth 20000 in
theorem dX11_mean_24 : decode cX11_mean 24 = .ok (.lreturn, 1) := by decide +kernel
set_option maxRecDepth 20000 in
theorem dX11_mean_25 : decode cX11_mean 25 = .ok (.iconst 0, 1) := by decide +kernel
set_option maxRecDepth 20000 in
theorem dX11_mean_26 : decode cX11_mean 26 = .ok (.istore_n 3, 1) := by decide +kernel
set_option maxRecDepth 20000 in
theorem dX11_mean_27 : decode cX11_mean 27 = .ok (.iconst 0, 1) := by decide +kernel
set_option maxRecDepth 20000 in
theorem dX11_mean_28 : decode cX11_mean 28 = .ok (.istore 4, 2) := by decide +kernel
set_option maxRecDepth 20000 in
theorem dX11_mean_30 : decode cX11_mean 30 = .ok (.iload 4, 2) := by decide +kernel
set_option maxRecDepth 20000 in
theorem dX11_mean_32 : decode cX11_mean 32 = .ok (.aload_n 0, 1) := by decide +kernel
set_option maxRecDepth 20000 in
theorem dX11_mean_33 : decode cX11_mean 33 = .ok (.getfield 98, 3) := by decide +kernel
set_option maxRecDepth 20000 in
theorem dX11_mean_36 : decode cX11_mean 36 = .ok (.getfield 146, 3) := by decide +kernel
set_option maxRecDepth 20000 in
theorem dX11_mean_39 : decode cX11_mean 39 = .ok (.if_icmp .ge 35, 3) := by decide +kernel
set_option maxRecDepth 20000 in
theorem dX11_mean_42 : decode cX11_mean 42 = .ok (.aload_n 0, 1) := by decide +kernel
set_option maxRecDepth 20000 in
theorem dX11_mean_43 : decode cX11_mean 43 = .ok (.getfield 98, 3) := by decide +kernel
set_option maxRecDepth 20000 in
theorem dX11_mean_46 : decode cX11_mean 46 = .ok (.iload 4, 2) := by decide +kernel
set_option maxRecDepth 20000 in
theorem dX11_mean_48 : decode cX11_mean 48 = .ok (.iconst 0, 1) := by decide +kernel
set_option maxRecDepth 20000 in
theorem dX11_mean_49 : decode cX11_mean 49 = .ok (.invokevirtual 230, 3) := by decide +kernel
set_option maxRecDepth 20000 in
theorem dX11_mean_52 : decode cX11_mean 52 = .ok (.ifCond .eq 16, 3) := by decide +kernel
set_option maxRecDepth 20000 in
theorem dX11_mean_55 : decode cX11_mean 55 = .ok (.iload_n 3, 1) := by decide +kernel
set_option maxRecDepth 20000 in
theorem dX11_mean_56 : decode cX11_mean 56 = .ok (.aload_n 0, 1) := by decide +kernel
set_option maxRecDepth 20000 in
theorem dX11_mean_57 : decode cX11_mean 57 = .ok (.getfield 98, 3) := by decide +kernel
set_option maxRecDepth 20000 in
theorem dX11_mean_60 : decode cX11_mean 60 = .ok (.getfield 152, 3) := by decide +kernel
set_option maxRecDepth 20000 in
theorem dX11_mean_63 : decode cX11_mean 63 = .ok (.iload 4, 2) := by decide +kernel
set_option maxRecDepth 20000 in
theorem dX11_mean_65 : decode cX11_mean 65 = .ok (.iaload, 1) := by decide +kernel
set_option maxRecDepth 20000 in
theorem dX11_mean_66 : decode cX11_mean 66 = .ok (.iadd, 1) := by decide +kernel
set_option maxRecDepth 20000 in
theorem dX11_mean_67 : decode cX11_mean 67 = .ok (.istore_n 3, 1) := by decide +kernel
set_option maxRecDepth 20000 in
theorem dX11_mean_68 : decode cX11_mean 68 = .ok (.iinc 4 1, 3) := by decide +kernel
set_option maxRecDepth 20000 in
theorem dX11_mean_71 : decode cX11_mean 71 = .ok (.goto (-41), 3) := by decide +kernel
set_option maxRecDepth 20000 in
theorem dX11_mean_74 : decode cX11_mean 74 = .ok (.iload_n 3, 1) := by decide +kernel
set_option maxRecDepth 20000 in
theorem dX11_mean_75 : decode cX11_mean 75 = .ok (.iload_n 2, 1) := by decide +kernel
set_option maxRecDepth 20000 in
theorem dX11_mean_76 : decode cX11_mean 76 = .ok (.iload_n 1, 1) := by decide +kernel
set_option maxRecDepth 20000 in
theorem dX11_mean_77 : decode cX11_mean 77 = .ok (.invokestatic 233, 3) := by decide +kernel
set_option maxRecDepth 20000 in
theorem dX11_mean_80 : decode cX11_mean 80 = .ok (.lreturn, 1) := by decide +kernel
set_option maxRecDepth 20000 in
theorem kt_X11_mean_0 (g : gx_T) : ∀ q ∈ k_X11_mean_0, gx_E g gc_md RX11 cX11_mean 5 (some .long) "mean" q.1 q.2 := List.forall_mem_cons.mpr ⟨(gs_aload_n dX11_mean_0 rfl), List.forall_mem_cons.mpr ⟨
  (gs_gf (ref := "GriefCranes") dX11_mean_1 (gx_mem 371 (by decide +kernel) (by decide +kernel)) (Or.inl rfl) gf_11_0), List.forall_mem_cons.mpr ⟨
  (gs_iconst dX11_mean_4 rfl), List.forall_mem_cons.mpr ⟨
  (gs_cv dX11_mean_5 (fun q hq => by
      simp only [List.mem_cons, List.not_mem_nil, or_false] at hq
      subst hq
      exact Or.inl ⟨_, rfl, by decide, by decide +kernel, by decide +kernel, List.forall_mem_cons.mpr ⟨gx_mem 749 (by decide +kernel) (by decide +kernel), List.forall_mem_cons.mpr ⟨gx_mem 750 (by decide +kernel) (by decide +kernel), List.forall_mem_cons.mpr ⟨gx_mem 751 (by decide +kernel) (by decide +kernel), List.forall_mem_cons.mpr ⟨gx_mem 95 (by decide +kernel) (by decide +kernel), List.forall_mem_cons.mpr ⟨cw_752, fun _ h => absurd h List.not_mem_nil⟩⟩⟩⟩⟩⟩)), List.forall_mem_cons.mpr ⟨
  (gs_istore_n dX11_mean_8 rfl), List.forall_mem_cons.mpr ⟨
  (gs_iload_n dX11_mean_9 rfl), List.forall_mem_cons.mpr ⟨
  (gs_if_eq dX11_mean_10 rfl), List.forall_mem_cons.mpr ⟨
  (gs_iload_n dX11_mean_13 rfl), List.forall_mem_cons.mpr ⟨
  (gs_iconst dX11_mean_14 rfl), List.forall_mem_cons.mpr ⟨
  (gs_cs dX11_mean_15 (md_98) (List.forall_mem_cons.mpr ⟨gx_mem 427 (by decide +kernel) (by decide +kernel), List.forall_mem_cons.mpr ⟨gx_mem 428 (by decide +kernel) (by decide +kernel), List.forall_mem_cons.mpr ⟨gx_mem 84 (by decide +kernel) (by decide +kernel), List.forall_mem_cons.mpr ⟨cw_429, fun _ h => absurd h List.not_mem_nil⟩⟩⟩⟩) (by decide +kernel) (by decide)), List.forall_mem_cons.mpr ⟨
  (gs_if_ne dX11_mean_18 rfl), List.forall_mem_cons.mpr ⟨
  (gs_ldc2 dX11_mean_21 (gx_mem 797 (by decide +kernel) (by decide +kernel))), List.forall_mem_cons.mpr ⟨
  (gs_rl dX11_mean_24), List.forall_mem_cons.mpr ⟨
  (gs_iconst dX11_mean_25 rfl), List.forall_mem_cons.mpr ⟨
  (gs_istore_n dX11_mean_26 rfl), List.forall_mem_cons.mpr ⟨
  (gs_iconst dX11_mean_27 rfl), List.forall_mem_cons.mpr ⟨
  (gs_istore dX11_mean_28), List.forall_mem_cons.mpr ⟨
  (gs_iload dX11_mean_30), List.forall_mem_cons.mpr ⟨
  (gs_aload_n dX11_mean_32 rfl), List.forall_mem_cons.mpr ⟨
  (gs_gf (ref := "GriefCranes") dX11_mean_33 (gx_mem 371 (by decide +kernel) (by decide +kernel)) (Or.inl rfl) gf_11_0), List.forall_mem_cons.mpr ⟨
  (gs_gf (ref := "GriefCranes$Yard") dX11_mean_36 (gx_mem 325 (by decide +kernel) (by decide +kernel)) (Or.inl rfl) gf_10_9), List.forall_mem_cons.mpr ⟨
  (gs_icmp_ge dX11_mean_39 rfl), List.forall_mem_cons.mpr ⟨
  (gs_aload_n dX11_mean_42 rfl), List.forall_mem_cons.mpr ⟨
  (gs_gf (ref := "GriefCranes") dX11_mean_43 (gx_mem 371 (by decide +kernel) (by decide +kernel)) (Or.inl rfl) gf_11_0), List.forall_mem_cons.mpr ⟨
  (gs_iload dX11_mean_46), List.forall_mem_cons.mpr ⟨
  (gs_iconst dX11_mean_48 rfl), List.forall_mem_cons.mpr ⟨
  (gs_cv dX11_mean_49 (fun q hq => by
      simp only [List.mem_cons, List.not_mem_nil, or_false] at hq
      subst hq
      exact Or.inl ⟨_, rfl, by decide, by decide +kernel, by decide +kernel, List.forall_mem_cons.mpr ⟨gx_mem 521 (by decide +kernel) (by decide +kernel), List.forall_mem_cons.mpr ⟨gx_mem 522 (by decide +kernel) (by decide +kernel), List.forall_mem_cons.mpr ⟨gx_mem 523 (by decide +kernel) (by decide +kernel), List.forall_mem_cons.mpr ⟨gx_mem 95 (by decide +kernel) (by decide +kernel), List.forall_mem_cons.mpr ⟨cw_524, fun _ h => absurd h List.not_mem_nil⟩⟩⟩⟩⟩⟩)), List.forall_mem_cons.mpr ⟨
  (gs_if_eq dX11_mean_52 rfl), List.forall_mem_cons.mpr ⟨
  (gs_iload_n dX11_mean_55 rfl), List.forall_mem_cons.mpr ⟨
  (gs_aload_n dX11_mean_56 rfl), List.forall_mem_cons.mpr ⟨
  (gs_gf (ref := "GriefCranes") dX11_mean_57 (gx_mem 371 (by decide +kernel) (by decide +kernel)) (Or.inl rfl) gf_11_0), List.forall_mem_cons.mpr ⟨
  (gs_gf (ref := "GriefCranes$Yard") dX11_mean_60 (gx_mem 328 (by decide +kernel) (by decide +kernel)) (Or.inl rfl) gf_10_10), fun _ h => absurd h List.not_mem_nil⟩⟩⟩⟩⟩⟩⟩⟩⟩⟩⟩⟩⟩⟩⟩⟩⟩⟩⟩⟩⟩⟩⟩⟩⟩⟩⟩⟩⟩⟩⟩⟩
set_option maxRecDepth 20000 in
theorem kt_X11_mean_1 (g : gx_T) : ∀ q ∈ k_X11_mean_1, gx_E g gc_md RX11 cX11_mean 5 (some .long) "mean" q.1 q.2 := List.forall_mem_cons.mpr ⟨(gs_iload dX11_mean_63), List.forall_mem_cons.mpr ⟨
  (gs_iaload dX11_mean_65), List.forall_mem_cons.mpr ⟨
  (gs_iadd dX11_mean_66), List.forall_mem_cons.mpr ⟨
  (gs_istore_n dX11_mean_67 rfl), List.forall_mem_cons.mpr ⟨
  (gs_iinc dX11_mean_68), List.forall_mem_cons.mpr ⟨
  (gs_goto dX11_mean_71 rfl), List.forall_mem_cons.mpr ⟨
  (gs_iload_n dX11_mean_74 rfl), List.forall_mem_cons.mpr ⟨
  (gs_iload_n dX11_mean_75 rfl), List.forall_mem_cons.mpr ⟨
  (gs_iload_n dX11_mean_76 rfl), List.forall_mem_cons.mpr ⟨
  (gs_cs dX11_mean_77 (md_100) (List.forall_mem_cons.mpr ⟨gx_mem 798 (by decide +kernel) (by decide +kernel), List.forall_mem_cons.mpr ⟨gx_mem 799 (by decide +kernel) (by decide +kernel), List.forall_mem_cons.mpr ⟨gx_mem 84 (by decide +kernel) (by decide +kernel), List.forall_mem_cons.mpr ⟨cw_800, fun _ h => absurd h List.not_mem_nil⟩⟩⟩⟩) (by decide +kernel) (by decide)), List.forall_mem_cons.mpr ⟨
  (gs_rl dX11_mean_80), fun _ h => absurd h List.not_mem_nil⟩⟩⟩⟩⟩⟩⟩⟩⟩⟩⟩
theorem kt_X11_mean (g : gx_T) : ∀ q ∈ k_X11_mean, gx_E g gc_md RX11 cX11_mean 5 (some .long) "mean" q.1 q.2 := List.forall_mem_append.mpr ⟨kt_X11_mean_0 g, kt_X11_mean_1 g⟩
set_option maxRecDepth 20000 in
theorem dX11_plan_0 : decode cX11_plan 0 = .ok (.iload_n 1, 1) := by decide +kernel
set_option maxRecDepth 20000 in
theorem dX11_plan_1 : decode cX11_plan 1 = .ok (.iconst (-1), 1) := by decide +kernel
set_option maxRecDepth 20000 in
theorem dX11_plan_2 : decode cX11_plan 2 = .ok (.if_icmp .ne 11, 3) := by decide +kernel
set_option maxRecDepth 20000 in
theorem dX11_plan_5 : decode cX11_plan 5 = .ok (.aload_n 0, 1) := by decide +kernel
set_option maxRecDepth 20000 in
theorem dX11_plan_6 : decode cX11_plan 6 = .ok (.getfield 23, 3) := by decide +kernel
set_option maxRecDepth 20000 in
theorem dX11_plan_9 : decode cX11_plan 9 = .ok (.invokevirtual 220, 3) := by decide +kernel
set_option maxRecDepth 20000 in
theorem dX11_plan_12 : decode cX11_plan 12 = .ok (.ireturn, 1) := by decide +kernel
set_option maxRecDepth 20000 in
theorem dX11_plan_13 : decode cX11_plan 13 = .ok (.iload_n 1, 1) := by decide +kernel
set_option maxRecDepth 20000 in
theorem dX11_plan_14 : decode cX11_plan 14 = .ok (.iconst 3, 1) := by decide +kernel
set_option maxRecDepth 20000 in
theorem dX11_plan_15 : decode cX11_plan 15 = .ok (.invokestatic 108, 3) := by decide +kernel
set_option maxRecDepth 20000 in
theorem dX11_plan_18 : decode cX11_plan 18 = .ok (.ifCond .ne 5, 3) := by decide +kernel
set_option maxRecDepth 20000 in
theorem dX11_plan_21 : decode cX11_plan 21 = .ok (.iconst (-1), 1) := by decide +kernel
set_option maxRecDepth 20000 in
theorem dX11_plan_22 : decode cX11_plan 22 = .ok (.ireturn, 1) := by decide +kernel
set_option maxRecDepth 20000 in
theorem dX11_plan_23 : decode cX11_plan 23 = .ok (.iload_n 1, 1) := by decide +kernel
set_option maxRecDepth 20000 in
theorem dX11_plan_24 : decode cX11_plan 24 = .ok (.ifCond .eq 16, 3) := by decide +kernel
set_option maxRecDepth 20000 in
theorem dX11_plan_27 : decode cX11_plan 27 = .ok (.aload_n 0, 1) := by decide +kernel
set_option maxRecDepth 20000 in
theorem dX11_plan_28 : decode cX11_plan 28 = .ok (.getfield 98, 3) := by decide +kernel
set_option maxRecDepth 20000 in
theorem dX11_plan_31 : decode cX11_plan 31 = .ok (.iload_n 2, 1) := by decide +kernel
set_option maxRecDepth 20000 in
theorem dX11_plan_32 : decode cX11_plan 32 = .ok (.invokevirtual 140, 3) := by decide +kernel
set_option maxRecDepth 20000 in
theorem dX11_plan_35 : decode cX11_plan 35 = .ok (.ifCond .ne 5, 3) := by decide +kernel
set_option maxRecDepth 20000 in
theorem dX11_plan_38 : decode cX11_plan 38 = .ok (.iconst (-1), 1) := by decide +kernel
set_option maxRecDepth 20000 in
theorem dX11_plan_39 : decode cX11_plan 39 = .ok (.ireturn, 1) := by decide +kernel
set_option maxRecDepth 20000 in
theorem dX11_plan_40 : decode cX11_plan 40 = .ok (.aload_n 0, 1) := by decide +kernel
set_option maxRecDepth 20000 in
theorem dX11_plan_41 : decode cX11_plan 41 = .ok (.getfield 23, 3) := by decide +kernel
set_option maxRecDepth 20000 in
theorem dX11_plan_44 : decode cX11_plan 44 = .ok (.iload_n 1, 1) := by decide +kernel
set_option maxRecDepth 20000 in
theorem dX11_plan_45 : decode cX11_plan 45 = .ok (.iload_n 2, 1) := by decide +kernel
set_option maxRecDepth 20000 in
theorem dX11_plan_46 : decode cX11_plan 46 = .ok (.iconst 0, 1) := by decide +kernel
set_option maxRecDepth 20000 in
theorem dX11_plan_47 : decode cX11_plan 47 = .ok (.invokevirtual 224, 3) := by decide +kernel
set_option maxRecDepth 20000 in
theorem dX11_plan_50 : decode cX11_plan 50 = .ok (.ireturn, 1) := by decide +kernel
set_option maxRecDepth 20000 in
theorem kt_X11_plan_0 (g : gx_T) : ∀ q ∈ k_X11_plan_0, gx_E g gc_md RX11 cX11_plan 3 (some .int) "plan" q.1 q.2 := List.forall_mem_cons.mpr ⟨(gs_iload_n dX11_plan_0 rfl), List.forall_mem_cons.mpr ⟨
  (gs_iconst dX11_plan_1 rfl), List.forall_mem_cons.mpr ⟨
  (gs_icmp_ne dX11_plan_2 rfl), List.forall_mem_cons.mpr ⟨
  (gs_aload_n dX11_plan_5 rfl), List.forall_mem_cons.mpr ⟨
  (gs_gf (ref := "GriefCranes") dX11_plan_6 (gx_mem 376 (by decide +kernel) (by decide +kernel)) (Or.inl rfl) gf_11_5), List.forall_mem_cons.mpr ⟨
  (gs_cv dX11_plan_9 (fun q hq => by
      simp only [List.mem_cons, List.not_mem_nil, or_false] at hq
      subst hq
      exact Or.inl ⟨_, rfl, by decide, by decide +kernel, by decide +kernel, List.forall_mem_cons.mpr ⟨gx_mem 781 (by decide +kernel) (by decide +kernel), List.forall_mem_cons.mpr ⟨gx_mem 782 (by decide +kernel) (by decide +kernel), List.forall_mem_cons.mpr ⟨gx_mem 783 (by decide +kernel) (by decide +kernel), List.forall_mem_cons.mpr ⟨gx_mem 85 (by decide +kernel) (by decide +kernel), List.forall_mem_cons.mpr ⟨cw_784, fun _ h => absurd h List.not_mem_nil⟩⟩⟩⟩⟩⟩)), List.forall_mem_cons.mpr ⟨
  (gs_ri dX11_plan_12), List.forall_mem_cons.mpr ⟨
  (gs_iload_n dX11_plan_13 rfl), List.forall_mem_cons.mpr ⟨
  (gs_iconst dX11_plan_14 rfl), List.forall_mem_cons.mpr ⟨
  (gs_cs dX11_plan_15 (md_98) (List.forall_mem_cons.mpr ⟨gx_mem 427 (by decide +kernel) (by decide +kernel), List.forall_mem_cons.mpr ⟨gx_mem 428 (by decide +kernel) (by decide +kernel), List.forall_mem_cons.mpr ⟨gx_mem 84 (by decide +kernel) (by decide +kernel), List.forall_mem_cons.mpr ⟨cw_429, fun _ h => absurd h List.not_mem_nil⟩⟩⟩⟩) (by decide +kernel) (by decide)), List.forall_mem_cons.mpr ⟨
  (gs_if_ne dX11_plan_18 rfl), List.forall_mem_cons.mpr ⟨
  (gs_iconst dX11_plan_21 rfl), List.forall_mem_cons.mpr ⟨
  (gs_ri dX11_plan_22), List.forall_mem_cons.mpr ⟨
  (gs_iload_n dX11_plan_23 rfl), List.forall_mem_cons.mpr ⟨
  (gs_if_eq dX11_plan_24 rfl), List.forall_mem_cons.mpr ⟨
  (gs_aload_n dX11_plan_27 rfl), List.forall_mem_cons.mpr ⟨
  (gs_gf (ref := "GriefCranes") dX11_plan_28 (gx_mem 371 (by decide +kernel) (by decide +kernel)) (Or.inl rfl) gf_11_0), List.forall_mem_cons.mpr ⟨
  (gs_iload_n dX11_plan_31 rfl), List.forall_mem_cons.mpr ⟨
  (gs_cv dX11_plan_32 (fun q hq => by
      simp only [List.mem_cons, List.not_mem_nil, or_false] at hq
      subst hq
      exact Or.inl ⟨_, rfl, by decide, by decide +kernel, by decide +kernel, List.forall_mem_cons.mpr ⟨gx_mem 449 (by decide +kernel) (by decide +kernel), List.forall_mem_cons.mpr ⟨gx_mem 450 (by decide +kernel) (by decide +kernel), List.forall_mem_cons.mpr ⟨gx_mem 451 (by decide +kernel) (by decide +kernel), List.forall_mem_cons.mpr ⟨gx_mem 95 (by decide +kernel) (by decide +kernel), List.forall_mem_cons.mpr ⟨cw_452, fun _ h => absurd h List.not_mem_nil⟩⟩⟩⟩⟩⟩)), List.forall_mem_cons.mpr ⟨
  (gs_if_ne dX11_plan_35 rfl), List.forall_mem_cons.mpr ⟨
  (gs_iconst dX11_plan_38 rfl), List.forall_mem_cons.mpr ⟨
  (gs_ri dX11_plan_39), List.forall_mem_cons.mpr ⟨
  (gs_aload_n dX11_plan_40 rfl), List.forall_mem_cons.mpr ⟨
  (gs_gf (ref := "GriefCranes") dX11_plan_41 (gx_mem 376 (by decide +kernel) (by decide +kernel)) (Or.inl rfl) gf_11_5), List.forall_mem_cons.mpr ⟨
  (gs_iload_n dX11_plan_44 rfl), List.forall_mem_cons.mpr ⟨
  (gs_iload_n dX11_plan_45 rfl), List.forall_mem_cons.mpr ⟨
  (gs_iconst dX11_plan_46 rfl), List.forall_mem_cons.mpr ⟨
  (gs_cv dX11_plan_47 (fun q hq => by
      simp only [List.mem_cons, List.not_mem_nil, or_false] at hq
      subst hq
      exact Or.inl ⟨_, rfl, by decide, by decide +kernel, by decide +kernel, List.forall_mem_cons.mpr ⟨gx_mem 785 (by decide +kernel) (by decide +kernel), List.forall_mem_cons.mpr ⟨gx_mem 786 (by decide +kernel) (by decide +kernel), List.forall_mem_cons.mpr ⟨gx_mem 787 (by decide +kernel) (by decide +kernel), List.forall_mem_cons.mpr ⟨gx_mem 85 (by decide +kernel) (by decide +kernel), List.forall_mem_cons.mpr ⟨cw_788, fun _ h => absurd h List.not_mem_nil⟩⟩⟩⟩⟩⟩)), List.forall_mem_cons.mpr ⟨
  (gs_ri dX11_plan_50), fun _ h => absurd h List.not_mem_nil⟩⟩⟩⟩⟩⟩⟩⟩⟩⟩⟩⟩⟩⟩⟩⟩⟩⟩⟩⟩⟩⟩⟩⟩⟩⟩⟩⟩⟩
theorem kt_X11_plan (g : gx_T) : ∀ q ∈ k_X11_plan, gx_E g gc_md RX11 cX11_plan 3 (some .int) "plan" q.1 q.2 := kt_X11_plan_0 g
set_option maxRecDepth 20000 in
theorem dX11_ends_0 : decode cX11_ends 0 = .ok (.iload_n 1, 1) := by decide +kernel
set_option maxRecDepth 20000 in
theorem dX11_ends_1 : decode cX11_ends 1 = .ok (.iconst 1, 1) := by decide +kernel
set_option maxRecDepth 20000 in
theorem dX11_ends_2 : decode cX11_ends 2 = .ok (.invokestatic 108, 3) := by decide +kernel
set_option maxRecDepth 20000 in
theorem dX11_ends_5 : decode cX11_ends 5 = .ok (.ifCond .ne 5, 3) := by decide +kernel
set_option maxRecDepth 20000 in
theorem dX11_ends_8 : decode cX11_ends 8 = .ok (.iconst (-1), 1) := by decide +kernel
set_option maxRecDepth 20000 in
theorem dX11_ends_9 : decode cX11_ends 9 = .ok (.ireturn, 1) := by decide +kernel
set_option maxRecDepth 20000 in
theorem dX11_ends_10 : decode cX11_ends 10 = .ok (.aload_n 0, 1) := by decide +kernel
set_option maxRecDepth 20000 in
theorem dX11_ends_11 : decode cX11_ends 11 = .ok (.getfield 102, 3) := by decide +kernel
set_option maxRecDepth 20000 in
theorem dX11_ends_14 : decode cX11_ends 14 = .ok (.aload_n 0, 1) := by decide +kernel
set_option maxRecDepth 20000 in
theorem dX11_ends_15 : decode cX11_ends 15 = .ok (.getfield 98, 3) := by decide +kernel
set_option maxRecDepth 20000 in
theorem dX11_ends_18 : decode cX11_ends 18 = .ok (.invokevirtual 167, 3) := by decide +kernel
set_option maxRecDepth 20000 in
theorem dX11_ends_21 : decode cX11_ends 21 = .ok (.iconst 0, 1) := by decide +kernel
set_option maxRecDepth 20000 in
theorem dX11_ends_22 : decode cX11_ends 22 = .ok (.istore_n 2, 1) := by decide +kernel
set_option maxRecDepth 20000 in
theorem dX11_ends_23 : decode cX11_ends 23 = .ok (.iload_n 2, 1) := by decide +kernel
set_option maxRecDepth 20000 in
theorem dX11_ends_24 : decode cX11_ends 24 = .ok (.aload_n 0, 1) := by decide +kernel
set_option maxRecDepth 20000 in
theorem dX11_ends_25 : decode cX11_ends 25 = .ok (.getfield 23, 3) := by decide +kernel
set_option maxRecDepth 20000 in
theorem dX11_ends_28 : decode cX11_ends 28 = .ok (.getfield 237, 3) := by decide +kernel
set_option maxRecDepth 20000 in
theorem dX11_ends_31 : decode cX11_ends 31 = .ok (.if_icmp .ge 31, 3) := by decide +kernel
set_option maxRecDepth 20000 in
theorem dX11_ends_34 : decode cX11_ends 34 = .ok (.aload_n 0, 1) := by decide +kernel
set_option maxRecDepth 20000 in
theorem dX11_ends_35 : decode cX11_ends 35 = .ok (.aload_n 0, 1) := by decide +kernel
set_option maxRecDepth 20000 in
theorem dX11_ends_36 : decode cX11_ends 36 = .ok (.getfield 23, 3) := by decide +kernel
set_option maxRecDepth 20000 in
theorem dX11_ends_39 : decode cX11_ends 39 = .ok (.getfield 240, 3) := by decide +kernel
set_option maxRecDepth 20000 in
theorem dX11_ends_42 : decode cX11_ends 42 = .ok (.iload_n 2, 1) := by decide +kernel
set_option maxRecDepth 20000 in
theorem dX11_ends_43 : decode cX11_ends 43 = .ok (.iaload, 1) := by decide +kernel
set_option maxRecDepth 20000 in
theorem dX11_ends_44 : decode cX11_ends 44 = .ok (.aload_n 0, 1) := by decide +kernel
set_option maxRecDepth 20000 in
theorem dX11_ends_45 : decode cX11_ends 45 = .ok (.getfield 23, 3) := by decide +kernel
set_option maxRecDepth 20000 in
theorem dX11_ends_48 : decode cX11_ends 48 = .ok (.getfield 243, 3) := by decide +kernel
set_option maxRecDepth 20000 in
theorem dX11_ends_51 : decode cX11_ends 51 = .ok (.iload_n 2, 1) := by decide +kernel
set_option maxRecDepth 20000 in
theorem dX11_ends_52 : decode cX11_ends 52 = .ok (.iaload, 1) := by decide +kernel
set_option maxRecDepth 20000 in
theorem dX11_ends_53 : decode cX11_ends 53 = .ok (.invokevirtual 246, 3) := by decide +kernel
set_option maxRecDepth 20000 in
theorem dX11_ends_56 : decode cX11_ends 56 = .ok (.iinc 2 1, 3) := by decide +kernel
set_option maxRecDepth 20000 in
theorem dX11_ends_59 : decode cX11_ends 59 = .ok (.goto (-36), 3) := by decide +kernel
set_option maxRecDepth 20000 in
theorem dX11_ends_62 : decode cX11_ends 62 = .ok (.aload_n 0, 1) := by decide +kernel
set_option maxRecDepth 20000 in
theorem dX11_ends_63 : decode cX11_ends 63 = .ok (.getfield 102, 3) := by decide +kernel
set_option maxRecDepth 20000 in
theorem dX11_ends_66 : decode cX11_ends 66 = .ok (.iload_n 1, 1) := by decide +kernel
set_option maxRecDepth 20000 in
theorem dX11_ends_67 : decode cX11_ends 67 = .ok (.ifCond .ne 7, 3) := by decide +kernel
set_option maxRecDepth 20000 in
theorem dX11_ends_70 : decode cX11_ends 70 = .ok (.iconst 2, 1) := by decide +kernel
set_option maxRecDepth 20000 in
theorem dX11_ends_71 : decode cX11_ends 71 = .ok (.goto 4, 3) := by decide +kernel
set_option maxRecDepth 20000 in
theorem dX11_ends_74 : decode cX11_ends 74 = .ok (.iconst 3, 1) := by decide +kernel
set_option maxRecDepth 20000 in
theorem dX11_ends_75 : decode cX11_ends 75 = .ok (.invokevirtual 211, 3) := by decide +kernel
set_option maxRecDepth 20000 in
theorem dX11_ends_78 : decode cX11_ends 78 = .ok (.ireturn, 1) := by decide +kernel
set_option maxRecDepth 20000 in
theorem kt_X11_ends_0 (g : gx_T) : ∀ q ∈ k_X11_ends_0, gx_E g gc_md RX11 cX11_ends 3 (some .int) "ends" q.1 q.2 := List.forall_mem_cons.mpr ⟨(gs_iload_n dX11_ends_0 rfl), List.forall_mem_cons.mpr ⟨
  (gs_iconst dX11_ends_1 rfl), List.forall_mem_cons.mpr ⟨
  (gs_cs dX11_ends_2 (md_98) (List.forall_mem_cons.mpr ⟨gx_mem 427 (by decide +kernel) (by decide +kernel), List.forall_mem_cons.mpr ⟨gx_mem 428 (by decide +kernel) (by decide +kernel), List.forall_mem_cons.mpr ⟨gx_mem 84 (by decide +kernel) (by decide +kernel), List.forall_mem_cons.mpr ⟨cw_429, fun _ h => absurd h List.not_mem_nil⟩⟩⟩⟩) (by decide +kernel) (by decide)), List.forall_mem_cons.mpr ⟨
  (gs_if_ne dX11_ends_5 rfl), List.forall_mem_cons.mpr ⟨
  (gs_iconst dX11_ends_8 rfl), List.forall_mem_cons.mpr ⟨
  (gs_ri dX11_ends_9), List.forall_mem_cons.mpr ⟨
  (gs_aload_n dX11_ends_10 rfl), List.forall_mem_cons.mpr ⟨
  (gs_gf (ref := "GriefCranes") dX11_ends_11 (gx_mem 372 (by decide +kernel) (by decide +kernel)) (Or.inl rfl) gf_11_1), List.forall_mem_cons.mpr ⟨
  (gs_aload_n dX11_ends_14 rfl), List.forall_mem_cons.mpr ⟨
  (gs_gf (ref := "GriefCranes") dX11_ends_15 (gx_mem 371 (by decide +kernel) (by decide +kernel)) (Or.inl rfl) gf_11_0), List.forall_mem_cons.mpr ⟨
  (gs_cv dX11_ends_18 (fun q hq => by
      simp only [List.mem_cons, List.not_mem_nil, or_false] at hq
      subst hq
      exact Or.inl ⟨_, rfl, by decide, by decide +kernel, by decide +kernel, List.forall_mem_cons.mpr ⟨gx_mem 510 (by decide +kernel) (by decide +kernel), List.forall_mem_cons.mpr ⟨gx_mem 511 (by decide +kernel) (by decide +kernel), List.forall_mem_cons.mpr ⟨gx_mem 512 (by decide +kernel) (by decide +kernel), List.forall_mem_cons.mpr ⟨gx_mem 95 (by decide +kernel) (by decide +kernel), List.forall_mem_cons.mpr ⟨cw_513, fun _ h => absurd h List.not_mem_nil⟩⟩⟩⟩⟩⟩)), List.forall_mem_cons.mpr ⟨
  (gs_iconst dX11_ends_21 rfl), List.forall_mem_cons.mpr ⟨
  (gs_istore_n dX11_ends_22 rfl), List.forall_mem_cons.mpr ⟨
  (gs_iload_n dX11_ends_23 rfl), List.forall_mem_cons.mpr ⟨
  (gs_aload_n dX11_ends_24 rfl), List.forall_mem_cons.mpr ⟨
  (gs_gf (ref := "GriefCranes") dX11_ends_25 (gx_mem 376 (by decide +kernel) (by decide +kernel)) (Or.inl rfl) gf_11_5), List.forall_mem_cons.mpr ⟨
  (gs_gf (ref := "GriefCranes$Rows") dX11_ends_28 (gx_mem 126 (by decide +kernel) (by decide +kernel)) (Or.inl rfl) gf_5_3), List.forall_mem_cons.mpr ⟨
  (gs_icmp_ge dX11_ends_31 rfl), List.forall_mem_cons.mpr ⟨
  (gs_aload_n dX11_ends_34 rfl), List.forall_mem_cons.mpr ⟨
  (gs_aload_n dX11_ends_35 rfl), List.forall_mem_cons.mpr ⟨
  (gs_gf (ref := "GriefCranes") dX11_ends_36 (gx_mem 376 (by decide +kernel) (by decide +kernel)) (Or.inl rfl) gf_11_5), List.forall_mem_cons.mpr ⟨
  (gs_gf (ref := "GriefCranes$Rows") dX11_ends_39 (gx_mem 120 (by decide +kernel) (by decide +kernel)) (Or.inl rfl) gf_5_0), List.forall_mem_cons.mpr ⟨
  (gs_iload_n dX11_ends_42 rfl), List.forall_mem_cons.mpr ⟨
  (gs_iaload dX11_ends_43), List.forall_mem_cons.mpr ⟨
  (gs_aload_n dX11_ends_44 rfl), List.forall_mem_cons.mpr ⟨
  (gs_gf (ref := "GriefCranes") dX11_ends_45 (gx_mem 376 (by decide +kernel) (by decide +kernel)) (Or.inl rfl) gf_11_5), List.forall_mem_cons.mpr ⟨
  (gs_gf (ref := "GriefCranes$Rows") dX11_ends_48 (gx_mem 122 (by decide +kernel) (by decide +kernel)) (Or.inl rfl) gf_5_1), List.forall_mem_cons.mpr ⟨
  (gs_iload_n dX11_ends_51 rfl), List.forall_mem_cons.mpr ⟨
  (gs_iaload dX11_ends_52), List.forall_mem_cons.mpr ⟨
  (gs_cv dX11_ends_53 (fun q hq => by
      simp only [List.mem_cons, List.not_mem_nil, or_false] at hq
      subst hq
      exact Or.inl ⟨_, rfl, by decide, by decide +kernel, by decide +kernel, List.forall_mem_cons.mpr ⟨gx_mem 813 (by decide +kernel) (by decide +kernel), List.forall_mem_cons.mpr ⟨gx_mem 815 (by decide +kernel) (by decide +kernel), List.forall_mem_cons.mpr ⟨gx_mem 20 (by decide +kernel) (by decide +kernel), List.forall_mem_cons.mpr ⟨gx_mem 84 (by decide +kernel) (by decide +kernel), List.forall_mem_cons.mpr ⟨cw_816, fun _ h => absurd h List.not_mem_nil⟩⟩⟩⟩⟩⟩)), List.forall_mem_cons.mpr ⟨
  (gs_iinc dX11_ends_56), List.forall_mem_cons.mpr ⟨
  (gs_goto dX11_ends_59 rfl), fun _ h => absurd h List.not_mem_nil⟩⟩⟩⟩⟩⟩⟩⟩⟩⟩⟩⟩⟩⟩⟩⟩⟩⟩⟩⟩⟩⟩⟩⟩⟩⟩⟩⟩⟩⟩⟩⟩
set_option maxRecDepth 20000 in
theorem kt_X11_ends_1 (g : gx_T) : ∀ q ∈ k_X11_ends_1, gx_E g gc_md RX11 cX11_ends 3 (some .int) "ends" q.1 q.2 := List.forall_mem_cons.mpr ⟨(gs_aload_n dX11_ends_62 rfl), List.forall_mem_cons.mpr ⟨
  (gs_gf (ref := "GriefCranes") dX11_ends_63 (gx_mem 372 (by decide +kernel) (by decide +kernel)) (Or.inl rfl) gf_11_1), List.forall_mem_cons.mpr ⟨
  (gs_iload_n dX11_ends_66 rfl), List.forall_mem_cons.mpr ⟨
  (gs_if_ne dX11_ends_67 rfl), List.forall_mem_cons.mpr ⟨
  (gs_iconst dX11_ends_70 rfl), List.forall_mem_cons.mpr ⟨
  (gs_goto dX11_ends_71 rfl), List.forall_mem_cons.mpr ⟨
  (gs_iconst dX11_ends_74 rfl), List.forall_mem_cons.mpr ⟨
  (gs_cv dX11_ends_75 (fun q hq => by
      simp only [List.mem_cons, List.not_mem_nil, or_false] at hq
      subst hq
      exact Or.inl ⟨_, rfl, by decide, by decide +kernel, by decide +kernel, List.forall_mem_cons.mpr ⟨gx_mem 749 (by decide +kernel) (by decide +kernel), List.forall_mem_cons.mpr ⟨gx_mem 750 (by decide +kernel) (by decide +kernel), List.forall_mem_cons.mpr ⟨gx_mem 751 (by decide +kernel) (by decide +kernel), List.forall_mem_cons.mpr ⟨gx_mem 95 (by decide +kernel) (by decide +kernel), List.forall_mem_cons.mpr ⟨cw_752, fun _ h => absurd h List.not_mem_nil⟩⟩⟩⟩⟩⟩)), List.forall_mem_cons.mpr ⟨
  (gs_ri dX11_ends_78), fun _ h => absurd h List.not_mem_nil⟩⟩⟩⟩⟩⟩⟩⟩⟩
theorem kt_X11_ends (g : gx_T) : ∀ q ∈ k_X11_ends, gx_E g gc_md RX11 cX11_ends 3 (some .int) "ends" q.1 q.2 := List.forall_mem_append.mpr ⟨kt_X11_ends_0 g, kt_X11_ends_1 g⟩
set_option maxRecDepth 20000 in
theorem dX11_book_0 : decode cX11_book 0 = .ok (.iload_n 1, 1) := by decide +kernel
set_option maxRecDepth 20000 in
theorem dX11_book_1 : decode cX11_book 1 = .ok (.iconst (-1), 1) := by decide +kernel
set_option maxRecDepth 20000 in
theorem dX11_book_2 : decode cX11_book 2 = .ok (.if_icmp .ne 11, 3) := by decide +kernel
set_option maxRecDepth 20000 in
theorem dX11_book_5 : decode cX11_book 5 = .ok (.aload_n 0, 1) := by decide +kernel
set_option maxRecDepth 20000 in
theorem dX11_book_6 : decode cX11_book 6 = .ok (.getfield 29, 3) := by decide +kernel
set_option maxRecDepth 20000 in
theorem dX11_book_9 : decode cX11_book 9 = .ok (.invokevirtual 220, 3) := by decide +kernel
set_option maxRecDepth 20000 in
theorem dX11_book_12 : decode cX11_book 12 = .ok (.ireturn, 1) := by decide +kernel
set_option maxRecDepth 20000 in
theorem dX11_book_13 : decode cX11_book 13 = .ok (.aload_n 0, 1) := by decide +kernel
set_option maxRecDepth 20000 in
theorem dX11_book_14 : decode cX11_book 14 = .ok (.getfield 98, 3) := by decide +kernel
set_option maxRecDepth 20000 in
theorem dX11_book_17 : decode cX11_book 17 = .ok (.iload_n 1, 1) := by decide +kernel
set_option maxRecDepth 20000 in
theorem dX11_book_18 : decode cX11_book 18 = .ok (.invokevirtual 140, 3) := by decide +kernel
set_option maxRecDepth 20000 in
theorem dX11_book_21 : decode cX11_book 21 = .ok (.ifCond .ne 5, 3) := by decide +kernel
set_option maxRecDepth 20000 in
theorem dX11_book_24 : decode cX11_book 24 = .ok (.iconst (-1), 1) := by decide +kernel
set_option maxRecDepth 20000 in
theorem dX11_book_25 : decode cX11_book 25 = .ok (.ireturn, 1) := by decide +kernel
set_option maxRecDepth 20000 in
theorem dX11_book_26 : decode cX11_book 26 = .ok (.iload_n 2, 1) := by decide +kernel
set_option maxRecDepth 20000 in
theorem dX11_book_27 : decode cX11_book 27 = .ok (.bipush 99, 2) := by decide +kernel
set_option maxRecDepth 20000 in
theorem dX11_book_29 : decode cX11_book 29 = .ok (.invokestatic 108, 3) := by decide +kernel
set_option maxRecDepth 20000 in
theorem dX11_book_32 : decode cX11_book 32 = .ok (.ifCond .ne 6, 3) := by decide +kernel
set_option maxRecDepth 20000 in
theorem dX11_book_35 : decode cX11_book 35 = .ok (.bipush (-2), 2) := by decide +kernel
set_option maxRecDepth 20000 in
theorem dX11_book_37 : decode cX11_book 37 = .ok (.ireturn, 1) := by decide +kernel
set_option maxRecDepth 20000 in
theorem dX11_book_38 : decode cX11_book 38 = .ok (.aload_n 0, 1) := by decide +kernel
set_option maxRecDepth 20000 in
theorem dX11_book_39 : decode cX11_book 39 = .ok (.getfield 29, 3) := by decide +kernel
set_option maxRecDepth 20000 in
theorem dX11_book_42 : decode cX11_book 42 = .ok (.iload_n 1, 1) := by decide +kernel
set_option maxRecDepth 20000 in
theorem dX11_book_43 : decode cX11_book 43 = .ok (.iload_n 2, 1) := by decide +kernel
set_option maxRecDepth 20000 in
theorem dX11_book_44 : decode cX11_book 44 = .ok (.iconst 0, 1) := by decide +kernel
set_option maxRecDepth 20000 in
theorem dX11_book_45 : decode cX11_book 45 = .ok (.invokevirtual 224, 3) := by decide +kernel
set_option maxRecDepth 20000 in
theorem dX11_book_48 : decode cX11_book 48 = .ok (.ireturn, 1) := by decide +kernel
set_option maxRecDepth 20000 in
theorem kt_X11_book_0 (g : gx_T) : ∀ q ∈ k_X11_book_0, gx_E g gc_md RX11 cX11_book 3 (some .int) "book" q.1 q.2 := List.forall_mem_cons.mpr ⟨(gs_iload_n dX11_book_0 rfl), List.forall_mem_cons.mpr ⟨
  (gs_iconst dX11_book_1 rfl), List.forall_mem_cons.mpr ⟨
  (gs_icmp_ne dX11_book_2 rfl), List.forall_mem_cons.mpr ⟨
  (gs_aload_n dX11_book_5 rfl), List.forall_mem_cons.mpr ⟨
  (gs_gf (ref := "GriefCranes") dX11_book_6 (gx_mem 378 (by decide +kernel) (by decide +kernel)) (Or.inl rfl) gf_11_7), List.forall_mem_cons.mpr ⟨
  (gs_cv dX11_book_9 (fun q hq => by
      simp only [List.mem_cons, List.not_mem_nil, or_false] at hq
      subst hq
      exact Or.inl ⟨_, rfl, by decide, by decide +kernel, by decide +kernel, List.forall_mem_cons.mpr ⟨gx_mem 781 (by decide +kernel) (by decide +kernel), List.forall_mem_cons.mpr ⟨gx_mem 782 (by decide +kernel) (by decide +kernel), List.forall_mem_cons.mpr ⟨gx_mem 783 (by decide +kernel) (by decide +kernel), List.forall_mem_cons.mpr ⟨gx_mem 85 (by decide +kernel) (by decide +kernel), List.forall_mem_cons.mpr ⟨cw_784, fun _ h => absurd h List.not_mem_nil⟩⟩⟩⟩⟩⟩)), List.forall_mem_cons.mpr ⟨
  (gs_ri dX11_book_12), List.forall_mem_cons.mpr ⟨
  (gs_aload_n dX11_book_13 rfl), List.forall_mem_cons.mpr ⟨
  (gs_gf (ref := "GriefCranes") dX11_book_14 (gx_mem 371 (by decide +kernel) (by decide +kernel)) (Or.inl rfl) gf_11_0), List.forall_mem_cons.mpr ⟨
  (gs_iload_n dX11_book_17 rfl), List.forall_mem_cons.mpr ⟨
  (gs_cv dX11_book_18 (fun q hq => by
      simp only [List.mem_cons, List.not_mem_nil, or_false] at hq
      subst hq
      exact Or.inl ⟨_, rfl, by decide, by decide +kernel, by decide +kernel, List.forall_mem_cons.mpr ⟨gx_mem 449 (by decide +kernel) (by decide +kernel), List.forall_mem_cons.mpr ⟨gx_mem 450 (by decide +kernel) (by decide +kernel), List.forall_mem_cons.mpr ⟨gx_mem 451 (by decide +kernel) (by decide +kernel), List.forall_mem_cons.mpr ⟨gx_mem 95 (by decide +kernel) (by decide +kernel), List.forall_mem_cons.mpr ⟨cw_452, fun _ h => absurd h List.not_mem_nil⟩⟩⟩⟩⟩⟩)), List.forall_mem_cons.mpr ⟨
  (gs_if_ne dX11_book_21 rfl), List.forall_mem_cons.mpr ⟨
  (gs_iconst dX11_book_24 rfl), List.forall_mem_cons.mpr ⟨
  (gs_ri dX11_book_25), List.forall_mem_cons.mpr ⟨
  (gs_iload_n dX11_book_26 rfl), List.forall_mem_cons.mpr ⟨
  (gs_bipush dX11_book_27 rfl), List.forall_mem_cons.mpr ⟨
  (gs_cs dX11_book_29 (md_98) (List.forall_mem_cons.mpr ⟨gx_mem 427 (by decide +kernel) (by decide +kernel), List.forall_mem_cons.mpr ⟨gx_mem 428 (by decide +kernel) (by decide +kernel), List.forall_mem_cons.mpr ⟨gx_mem 84 (by decide +kernel) (by decide +kernel), List.forall_mem_cons.mpr ⟨cw_429, fun _ h => absurd h List.not_mem_nil⟩⟩⟩⟩) (by decide +kernel) (by decide)), List.forall_mem_cons.mpr ⟨
  (gs_if_ne dX11_book_32 rfl), List.forall_mem_cons.mpr ⟨
  (gs_bipush dX11_book_35 rfl), List.forall_mem_cons.mpr ⟨
  (gs_ri dX11_book_37), List.forall_mem_cons.mpr ⟨
  (gs_aload_n dX11_book_38 rfl), List.forall_mem_cons.mpr ⟨
  (gs_gf (ref := "GriefCranes") dX11_book_39 (gx_mem 378 (by decide +kernel) (by decide +kernel)) (Or.inl rfl) gf_11_7), List.forall_mem_cons.mpr ⟨
  (gs_iload_n dX11_book_42 rfl), List.forall_mem_cons.mpr ⟨
  (gs_iload_n dX11_book_43 rfl), List.forall_mem_cons.mpr ⟨
  (gs_iconst dX11_book_44 rfl), List.forall_mem_cons.mpr ⟨
  (gs_cv dX11_book_45 (fun q hq => by
      simp only [List.mem_cons, List.not_mem_nil, or_false] at hq
      subst hq
      exact Or.inl ⟨_, rfl, by decide, by decide +kernel, by decide +kernel, List.forall_mem_cons.mpr ⟨gx_mem 785 (by decide +kernel) (by decide +kernel), List.forall_mem_cons.mpr ⟨gx_mem 786 (by decide +kernel) (by decide +kernel), List.forall_mem_cons.mpr ⟨gx_mem 787 (by decide +kernel) (by decide +kernel), List.forall_mem_cons.mpr ⟨gx_mem 85 (by decide +kernel) (by decide +kernel), List.forall_mem_cons.mpr ⟨cw_788, fun _ h => absurd h List.not_mem_nil⟩⟩⟩⟩⟩⟩)), List.forall_mem_cons.mpr ⟨
  (gs_ri dX11_book_48), fun _ h => absurd h List.not_mem_nil⟩⟩⟩⟩⟩⟩⟩⟩⟩⟩⟩⟩⟩⟩⟩⟩⟩⟩⟩⟩⟩⟩⟩⟩⟩⟩⟩
theorem kt_X11_book (g : gx_T) : ∀ q ∈ k_X11_book, gx_E g gc_md RX11 cX11_book 3 (some .int) "book" q.1 q.2 := kt_X11_book_0 g
set_option maxRecDepth 20000 in
theorem dX11_looked_0 : decode cX11_looked 0 = .ok (.iconst 0, 1) := by decide +kernel
set_option maxRecDepth 20000 in
theorem dX11_looked_1 : decode cX11_looked 1 = .ok (.istore_n 1, 1) := by decide +kernel
set_option maxRecDepth 20000 in
theorem dX11_looked_2 : decode cX11_looked 2 = .ok (.iload_n 1, 1) := by decide +kernel
set_option maxRecDepth 20000 in
theorem dX11_looked_3 : decode cX11_looked 3 = .ok (.aload_n 0, 1) := by decide +kernel
set_option maxRecDepth 20000 in
theorem dX11_looked_4 : decode cX11_looked 4 = .ok (.getfield 29, 3) := by decide +kernel
set_option maxRecDepth 20000 in
theorem dX11_looked_7 : decode cX11_looked 7 = .ok (.getfield 237, 3) := by decide +kernel
set_option maxRecDepth 20000 in
theorem dX11_looked_10 : decode cX11_looked 10 = .ok (.if_icmp .ge 53, 3) := by decide +kernel
set_option maxRecDepth 20000 in
theorem dX11_looked_13 : decode cX11_looked 13 = .ok (.aload_n 0, 1) := by decide +kernel
set_option maxRecDepth 20000 in
theorem dX11_looked_14 : decode cX11_looked 14 = .ok (.getfield 29, 3) := by decide +kernel
set_option maxRecDepth 20000 in
theorem dX11_looked_17 : decode cX11_looked 17 = .ok (.getfield 240, 3) := by decide +kernel
set_option maxRecDepth 20000 in
theorem dX11_looked_20 : decode cX11_looked 20 = .ok (.iload_n 1, 1) := by decide +kernel
set_option maxRecDepth 20000 in
theorem dX11_looked_21 : decode cX11_looked 21 = .ok (.iaload, 1) := by decide +kernel
set_option maxRecDepth 20000 in
theorem dX11_looked_22 : decode cX11_looked 22 = .ok (.istore_n 2, 1) := by decide +kernel
set_option maxRecDepth 20000 in
theorem dX11_looked_23 : decode cX11_looked 23 = .ok (.aload_n 0, 1) := by decide +kernel
set_option maxRecDepth 20000 in
theorem dX11_looked_24 : decode cX11_looked 24 = .ok (.getfield 98, 3) := by decide +kernel
set_option maxRecDepth 20000 in
theorem dX11_looked_27 : decode cX11_looked 27 = .ok (.iload_n 2, 1) := by decide +kernel
set_option maxRecDepth 20000 in
theorem dX11_looked_28 : decode cX11_looked 28 = .ok (.invokevirtual 140, 3) := by decide +kernel
set_option maxRecDepth 20000 in
theorem dX11_looked_31 : decode cX11_looked 31 = .ok (.ifCond .eq 26, 3) := by decide +kernel
set_option maxRecDepth 20000 in
theorem dX11_looked_34 : decode cX11_looked 34 = .ok (.aload_n 0, 1) := by decide +kernel
set_option maxRecDepth 20000 in
theorem dX11_looked_35 : decode cX11_looked 35 = .ok (.getfield 98, 3) := by decide +kernel
set_option maxRecDepth 20000 in
theorem dX11_looked_38 : decode cX11_looked 38 = .ok (.getfield 152, 3) := by decide +kernel
set_option maxRecDepth 20000 in
theorem dX11_looked_41 : decode cX11_looked 41 = .ok (.iload_n 2, 1) := by decide +kernel
set_option maxRecDepth 20000 in
theorem dX11_looked_42 : decode cX11_looked 42 = .ok (.iaload, 1) := by decide +kernel
set_option maxRecDepth 20000 in
theorem dX11_looked_43 : decode cX11_looked 43 = .ok (.aload_n 0, 1) := by decide +kernel
set_option maxRecDepth 20000 in
theorem dX11_looked_44 : decode cX11_looked 44 = .ok (.getfield 29, 3) := by decide +kernel
set_option maxRecDepth 20000 in
theorem dX11_looked_47 : decode cX11_looked 47 = .ok (.getfield 243, 3) := by decide +kernel
set_option maxRecDepth 20000 in
theorem dX11_looked_50 : decode cX11_looked 50 = .ok (.iload_n 1, 1) := by decide +kernel
set_option maxRecDepth 20000 in
theorem dX11_looked_51 : decode cX11_looked 51 = .ok (.iaload, 1) := by decide +kernel
set_option maxRecDepth 20000 in
theorem dX11_looked_52 : decode cX11_looked 52 = .ok (.if_icmp .eq 5, 3) := by decide +kernel
set_option maxRecDepth 20000 in
theorem dX11_looked_55 : decode cX11_looked 55 = .ok (.iload_n 1, 1) := by decide +kernel
set_option maxRecDepth 20000 in
theorem dX11_looked_56 : decode cX11_looked 56 = .ok (.ireturn, 1) := by decide +kernel
set_option maxRecDepth 20000 in
theorem dX11_looked_57 : decode cX11_looked 57 = .ok (.iinc 1 1, 3) := by decide +kernel
set_option maxRecDepth 20000 in
theorem dX11_looked_60 : decode cX11_looked 60 = .ok (.goto (-58), 3) := by decide +kernel
set_option maxRecDepth 20000 in
theorem dX11_looked_63 : decode cX11_looked 63 = .ok (.bipush (-5), 2) := by decide +kernel
set_option maxRecDepth 20000 in
theorem dX11_looked_65 : decode cX11_looked 65 = .ok (.ireturn, 1) := by decide +kernel
set_option maxRecDepth 20000 in
theorem kt_X11_looked_0 (g : gx_T) : ∀ q ∈ k_X11_looked_0, gx_E g gc_md RX11 cX11_looked 3 (some .int) "looked" q.1 q.2 := List.forall_mem_cons.mpr ⟨(gs_iconst dX11_looked_0 rfl), List.forall_mem_cons.mpr ⟨
  (gs_istore_n dX11_looked_1 rfl), List.forall_mem_cons.mpr ⟨
  (gs_iload_n dX11_looked_2 rfl), List.forall_mem_cons.mpr ⟨
  (gs_aload_n dX11_looked_3 rfl), List.forall_mem_cons.mpr ⟨
  (gs_gf (ref := "GriefCranes") dX11_looked_4 (gx_mem 378 (by decide +kernel) (by decide +kernel)) (Or.inl rfl) gf_11_7), List.forall_mem_cons.mpr ⟨
  (gs_gf (ref := "GriefCranes$Rows") dX11_looked_7 (gx_mem 126 (by decide +kernel) (by decide +kernel)) (Or.inl rfl) gf_5_3), List.forall_mem_cons.mpr ⟨
  (gs_icmp_ge dX11_looked_10 rfl), List.forall_mem_cons.mpr ⟨
  (gs_aload_n dX11_looked_13 rfl), List.forall_mem_cons.mpr ⟨
  (gs_gf (ref := "GriefCranes") dX11_looked_14 (gx_mem 378 (by decide +kernel) (by decide +kernel)) (Or.inl rfl) gf_11_7), List.forall_mem_cons.mpr ⟨
  (gs_gf (ref := "GriefCranes$Rows") dX11_looked_17 (gx_mem 120 (by decide +kernel) (by decide +kernel)) (Or.inl rfl) gf_5_0), List.forall_mem_cons.mpr ⟨
  (gs_iload_n dX11_looked_20 rfl), List.forall_mem_cons.mpr ⟨
  (gs_iaload dX11_looked_21), List.forall_mem_cons.mpr ⟨
  (gs_istore_n dX11_looked_22 rfl), List.forall_mem_cons.mpr ⟨
  (gs_aload_n dX11_looked_23 rfl), List.forall_mem_cons.mpr ⟨
  (gs_gf (ref := "GriefCranes") dX11_looked_24 (gx_mem 371 (by decide +kernel) (by decide +kernel)) (Or.inl rfl) gf_11_0), List.forall_mem_cons.mpr ⟨
  (gs_iload_n dX11_looked_27 rfl), List.forall_mem_cons.mpr ⟨
  (gs_cv dX11_looked_28 (fun q hq => by
      simp only [List.mem_cons, List.not_mem_nil, or_false] at hq
      subst hq
      exact Or.inl ⟨_, rfl, by decide, by decide +kernel, by decide +kernel, List.forall_mem_cons.mpr ⟨gx_mem 449 (by decide +kernel) (by decide +kernel), List.forall_mem_cons.mpr ⟨gx_mem 450 (by decide +kernel) (by decide +kernel), List.forall_mem_cons.mpr ⟨gx_mem 451 (by decide +kernel) (by decide +kernel), List.forall_mem_cons.mpr ⟨gx_mem 95 (by decide +kernel) (by decide +kernel), List.forall_mem_cons.mpr ⟨cw_452, fun _ h => absurd h List.not_mem_nil⟩⟩⟩⟩⟩⟩)), List.forall_mem_cons.mpr ⟨
  (gs_if_eq dX11_looked_31 rfl), List.forall_mem_cons.mpr ⟨
  (gs_aload_n dX11_looked_34 rfl), List.forall_mem_cons.mpr ⟨
  (gs_gf (ref := "GriefCranes") dX11_looked_35 (gx_mem 371 (by decide +kernel) (by decide +kernel)) (Or.inl rfl) gf_11_0), List.forall_mem_cons.mpr ⟨
  (gs_gf (ref := "GriefCranes$Yard") dX11_looked_38 (gx_mem 328 (by decide +kernel) (by decide +kernel)) (Or.inl rfl) gf_10_10), List.forall_mem_cons.mpr ⟨
  (gs_iload_n dX11_looked_41 rfl), List.forall_mem_cons.mpr ⟨
  (gs_iaload dX11_looked_42), List.forall_mem_cons.mpr ⟨
  (gs_aload_n dX11_looked_43 rfl), List.forall_mem_cons.mpr ⟨
  (gs_gf (ref := "GriefCranes") dX11_looked_44 (gx_mem 378 (by decide +kernel) (by decide +kernel)) (Or.inl rfl) gf_11_7), List.forall_mem_cons.mpr ⟨
  (gs_gf (ref := "GriefCranes$Rows") dX11_looked_47 (gx_mem 122 (by decide +kernel) (by decide +kernel)) (Or.inl rfl) gf_5_1), List.forall_mem_cons.mpr ⟨
  (gs_iload_n dX11_looked_50 rfl), List.forall_mem_cons.mpr ⟨
  (gs_iaload dX11_looked_51), List.forall_mem_cons.mpr ⟨
  (gs_icmp_eq dX11_looked_52 rfl), List.forall_mem_cons.mpr ⟨
  (gs_iload_n dX11_looked_55 rfl), List.forall_mem_cons.mpr ⟨
  (gs_ri dX11_looked_56), List.forall_mem_cons.mpr ⟨
  (gs_iinc dX11_looked_57), fun _ h => absurd h List.not_mem_nil⟩⟩⟩⟩⟩⟩⟩⟩⟩⟩⟩⟩⟩⟩⟩⟩⟩⟩⟩⟩⟩⟩⟩⟩⟩⟩⟩⟩⟩⟩⟩⟩
set_option maxRecDepth 20000 in
theorem kt_X11_looked_1 (g : gx_T) : ∀ q ∈ k_X11_looked_1, gx_E g gc_md RX11 cX11_looked 3 (some .int) "looked" q.1 q.2 := List.forall_mem_cons.mpr ⟨(gs_goto dX11_looked_60 rfl), List.forall_mem_cons.mpr ⟨
  (gs_bipush dX11_looked_63 rfl), List.forall_mem_cons.mpr ⟨
  (gs_ri dX11_looked_65), fun _ h => absurd h List.not_mem_nil⟩⟩⟩
theorem kt_X11_looked (g : gx_T) : ∀ q ∈ k_X11_looked, gx_E g gc_md RX11 cX11_looked 3 (some .int) "looked" q.1 q.2 := List.forall_mem_append.mpr ⟨kt_X11_looked_0 g, kt_X11_looked_1 g⟩
set_option maxRecDepth 20000 in
theorem dX11_judge_0 : decode cX11_judge 0 = .ok (.iload_n 1, 1) := by decide +kernel
set_option maxRecDepth 20000 in
theorem dX11_judge_1 : decode cX11_judge 1 = .ok (.iconst 5, 1) := by decide +kernel
set_option maxRecDepth 20000 in
theorem dX11_judge_2 : decode cX11_judge 2 = .ok (.invokestatic 108, 3) := by decide +kernel
set_option maxRecDepth 20000 in
theorem dX11_judge_5 : decode cX11_judge 5 = .ok (.ifCond .ne 5, 3) := by decide +kernel
set_option maxRecDepth 20000 in
theorem dX11_judge_8 : decode cX11_judge 8 = .ok (.iconst (-1), 1) := by decide +kernel
set_option maxRecDepth 20000 in
theorem dX11_judge_9 : decode cX11_judge 9 = .ok (.ireturn, 1) := by decide +kernel
set_option maxRecDepth 20000 in
theorem dX11_judge_10 : decode cX11_judge 10 = .ok (.aload_n 0, 1) := by decide +kernel
set_option maxRecDepth 20000 in
theorem dX11_judge_11 : decode cX11_judge 11 = .ok (.getfield 62, 3) := by decide +kernel
set_option maxRecDepth 20000 in
theorem dX11_judge_14 : decode cX11_judge 14 = .ok (.iload_n 1, 1) := by decide +kernel
set_option maxRecDepth 20000 in
theorem dX11_judge_15 : decode cX11_judge 15 = .ok (.aaload, 1) := by decide +kernel
set_option maxRecDepth 20000 in
theorem dX11_judge_16 : decode cX11_judge 16 = .ok (.astore_n 3, 1) := by decide +kernel
set_option maxRecDepth 20000 in
theorem dX11_judge_17 : decode cX11_judge 17 = .ok (.aload_n 3, 1) := by decide +kernel
set_option maxRecDepth 20000 in
theorem dX11_judge_18 : decode cX11_judge 18 = .ok (.getfield 250, 3) := by decide +kernel
set_option maxRecDepth 20000 in
theorem dX11_judge_21 : decode cX11_judge 21 = .ok (.iconst (-1), 1) := by decide +kernel
set_option maxRecDepth 20000 in
theorem dX11_judge_22 : decode cX11_judge 22 = .ok (.if_icmp .eq 13, 3) := by decide +kernel
set_option maxRecDepth 20000 in
theorem dX11_judge_25 : decode cX11_judge 25 = .ok (.aload_n 3, 1) := by decide +kernel
set_option maxRecDepth 20000 in
theorem dX11_judge_26 : decode cX11_judge 26 = .ok (.getfield 250, 3) := by decide +kernel
set_option maxRecDepth 20000 in
theorem dX11_judge_29 : decode cX11_judge 29 = .ok (.ifCond .eq 6, 3) := by decide +kernel
set_option maxRecDepth 20000 in
theorem dX11_judge_32 : decode cX11_judge 32 = .ok (.bipush (-12), 2) := by decide +kernel
set_option maxRecDepth 20000 in
theorem dX11_judge_34 : decode cX11_judge 34 = .ok (.ireturn, 1) := by decide +kernel
set_option maxRecDepth 20000 in
theorem dX11_judge_35 : decode cX11_judge 35 = .ok (.iconst 0, 1) := by decide +kernel
set_option maxRecDepth 20000 in
theorem dX11_judge_36 : decode cX11_judge 36 = .ok (.istore 4, 2) := by decide +kernel
set_option maxRecDepth 20000 in
theorem dX11_judge_38 : decode cX11_judge 38 = .ok (.iload 4, 2) := by decide +kernel
set_option maxRecDepth 20000 in
theorem dX11_judge_40 : decode cX11_judge 40 = .ok (.aload_n 0, 1) := by decide +kernel
set_option maxRecDepth 20000 in
theorem dX11_judge_41 : decode cX11_judge 41 = .ok (.getfield 98, 3) := by decide +kernel
set_option maxRecDepth 20000 in
theorem dX11_judge_44 : decode cX11_judge 44 = .ok (.getfield 146, 3) := by decide +kernel
set_option maxRecDepth 20000 in
theorem dX11_judge_47 : decode cX11_judge 47 = .ok (.if_icmp .ge 57, 3) := by decide +kernel
set_option maxRecDepth 20000 in
theorem dX11_judge_50 : decode cX11_judge 50 = .ok (.iload_n 2, 1) := by decide +kernel
set_option maxRecDepth 20000 in
theorem dX11_judge_51 : decode cX11_judge 51 = .ok (.ifCond .lt 14, 3) := by decide +kernel
set_option maxRecDepth 20000 in
theorem dX11_judge_54 : decode cX11_judge 54 = .ok (.iload_n 2, 1) := by decide +kernel
set_option maxRecDepth 20000 in
theorem dX11_judge_55 : decode cX11_judge 55 = .ok (.aload_n 3, 1) := by decide +kernel
set_option maxRecDepth 20000 in
theorem dX11_judge_56 : decode cX11_judge 56 = .ok (.getfield 253, 3) := by decide +kernel
set_option maxRecDepth 20000 in
theorem dX11_judge_59 : decode cX11_judge 59 = .ok (.iload 4, 2) := by decide +kernel
set_option maxRecDepth 20000 in
theorem dX11_judge_61 : decode cX11_judge 61 = .ok (.isub, 1) := by decide +kernel
set_option maxRecDepth 20000 in
theorem dX11_judge_62 : decode cX11_judge 62 = .ok (.if_icmp .lt 9, 3) := by decide +kernel
set_option maxRecDepth 20000 in
theorem dX11_judge_65 : decode cX11_judge 65 = .ok (.bipush 100, 2) := by decide +kernel
set_option maxRecDepth 20000 in
theorem dX11_judge_67 : decode cX11_judge 67 = .ok (.iload 4, 2) := by decide +kernel
set_option maxRecDepth 20000 in
theorem dX11_judge_69 : decode cX11_judge 69 = .ok (.iadd, 1) := by decide +kernel
set_option maxRecDepth 20000 in
theorem dX11_judge_70 : decode cX11_judge 70 = .ok (.ireturn, 1) := by decide +kernel
set_option maxRecDepth 20000 in
theorem dX11_judge_71 : decode cX11_judge 71 = .ok (.aload_n 3, 1) := by decide +kernel
set_option maxRecDepth 20000 in
theorem dX11_judge_72 : decode cX11_judge 72 = .ok (.getfield 256, 3) := by decide +kernel
set_option maxRecDepth 20000 in
theorem dX11_judge_75 : decode cX11_judge 75 = .ok (.iload_n 2, 1) := by decide +kernel
set_option maxRecDepth 20000 in
theorem dX11_judge_76 : decode cX11_judge 76 = .ok (.iload 4, 2) := by decide +kernel
set_option maxRecDepth 20000 in
theorem dX11_judge_78 : decode cX11_judge 78 = .ok (.iadd, 1) := by decide +kernel
set_option maxRecDepth 20000 in
theorem dX11_judge_79 : decode cX11_judge 79 = .ok (.laload, 1) := by decide +kernel
set_option maxRecDepth 20000 in
theorem dX11_judge_80 : decode cX11_judge 80 = .ok (.aload_n 0, 1) := by decide +kernel
set_option maxRecDepth 20000 in
theorem dX11_judge_81 : decode cX11_judge 81 = .ok (.getfield 98, 3) := by decide +kernel
set_option maxRecDepth 20000 in
theorem dX11_judge_84 : decode cX11_judge 84 = .ok (.getfield 152, 3) := by decide +kernel
set_option maxRecDepth 20000 in
theorem dX11_judge_87 : decode cX11_judge 87 = .ok (.iload 4, 2) := by decide +kernel
set_option maxRecDepth 20000 in
theorem dX11_judge_89 : decode cX11_judge 89 = .ok (.iaload, 1) := by decide +kernel
set_option maxRecDepth 20000 in
theorem dX11_judge_90 : decode cX11_judge 90 = .ok (.i2l, 1) := by decide +kernel
set_option maxRecDepth 20000 in
theorem dX11_judge_91 : decode cX11_judge 91 = .ok (.lcmp, 1) := by decide +kernel
set_option maxRecDepth 20000 in
theorem dX11_judge_92 : decode cX11_judge 92 = .ok (.ifCond .eq 6, 3) := by decide +kernel
set_option maxRecDepth 20000 in
theorem dX11_judge_95 : decode cX11_judge 95 = .ok (.iload 4, 2) := by decide +kernel
set_option maxRecDepth 20000 in
theorem dX11_judge_97 : decode cX11_judge 97 = .ok (.ireturn, 1) := by decide +kernel
set_option maxRecDepth 20000 in
theorem dX11_judge_98 : decode cX11_judge 98 = .ok (.iinc 4 1, 3) := by decide +kernel
set_option maxRecDepth 20000 in
theorem dX11_judge_101 : decode cX11_judge 101 = .ok (.goto (-63), 3) := by decide +kernel
set_option maxRecDepth 20000 in
theorem dX11_judge_104 : decode cX11_judge 104 = .ok (.bipush (-5), 2) := by decide +kernel
set_option maxRecDepth 20000 in
theorem dX11_judge_106 : decode cX11_judge 106 = .ok (.ireturn, 1) := by decide +kernel
set_option maxRecDepth 20000 in
theorem kt_X11_judge_0 (g : gx_T) : ∀ q ∈ k_X11_judge_0, gx_E g gc_md RX11 cX11_judge 5 (some .int) "judge" q.1 q.2 := List.forall_mem_cons.mpr ⟨(gs_iload_n dX11_judge_0 rfl), List.forall_mem_cons.mpr ⟨
  (gs_iconst dX11_judge_1 rfl), List.forall_mem_cons.mpr ⟨
  (gs_cs dX11_judge_2 (md_98) (List.forall_mem_cons.mpr ⟨gx_mem 427 (by decide +kernel) (by decide +kernel), List.forall_mem_cons.mpr ⟨gx_mem 428 (by decide +kernel) (by decide +kernel), List.forall_mem_cons.mpr ⟨gx_mem 84 (by decide +kernel) (by decide +kernel), List.forall_mem_cons.mpr ⟨cw_429, fun _ h => absurd h List.not_mem_nil⟩⟩⟩⟩) (by decide +kernel) (by decide)), List.forall_mem_cons.mpr ⟨
  (gs_if_ne dX11_judge_5 rfl), List.forall_mem_cons.mpr ⟨
  (gs_iconst dX11_judge_8 rfl), List.forall_mem_cons.mpr ⟨
  (gs_ri dX11_judge_9), List.forall_mem_cons.mpr ⟨
  (gs_aload_n dX11_judge_10 rfl), List.forall_mem_cons.mpr ⟨
  (gs_gf (ref := "GriefCranes") dX11_judge_11 (gx_mem 387 (by decide +kernel) (by decide +kernel)) (Or.inl rfl) gf_11_16), List.forall_mem_cons.mpr ⟨
  (gs_iload_n dX11_judge_14 rfl), List.forall_mem_cons.mpr ⟨
  (gs_aaload (by decide) dX11_judge_15), List.forall_mem_cons.mpr ⟨
  (gs_astore_n dX11_judge_16 rfl), List.forall_mem_cons.mpr ⟨
  (gs_aload_n dX11_judge_17 rfl), List.forall_mem_cons.mpr ⟨
  (gs_gf (ref := "GriefCranes$Tape") dX11_judge_18 (gx_mem 188 (by decide +kernel) (by decide +kernel)) (Or.inl rfl) gf_8_0), List.forall_mem_cons.mpr ⟨
  (gs_iconst dX11_judge_21 rfl), List.forall_mem_cons.mpr ⟨
  (gs_icmp_eq dX11_judge_22 rfl), List.forall_mem_cons.mpr ⟨
  (gs_aload_n dX11_judge_25 rfl), List.forall_mem_cons.mpr ⟨
  (gs_gf (ref := "GriefCranes$Tape") dX11_judge_26 (gx_mem 188 (by decide +kernel) (by decide +kernel)) (Or.inl rfl) gf_8_0), List.forall_mem_cons.mpr ⟨
  (gs_if_eq dX11_judge_29 rfl), List.forall_mem_cons.mpr ⟨
  (gs_bipush dX11_judge_32 rfl), List.forall_mem_cons.mpr ⟨
  (gs_ri dX11_judge_34), List.forall_mem_cons.mpr ⟨
  (gs_iconst dX11_judge_35 rfl), List.forall_mem_cons.mpr ⟨
  (gs_istore dX11_judge_36), List.forall_mem_cons.mpr ⟨
  (gs_iload dX11_judge_38), List.forall_mem_cons.mpr ⟨
  (gs_aload_n dX11_judge_40 rfl), List.forall_mem_cons.mpr ⟨
  (gs_gf (ref := "GriefCranes") dX11_judge_41 (gx_mem 371 (by decide +kernel) (by decide +kernel)) (Or.inl rfl) gf_11_0), List.forall_mem_cons.mpr ⟨
  (gs_gf (ref := "GriefCranes$Yard") dX11_judge_44 (gx_mem 325 (by decide +kernel) (by decide +kernel)) (Or.inl rfl) gf_10_9), List.forall_mem_cons.mpr ⟨
  (gs_icmp_ge dX11_judge_47 rfl), List.forall_mem_cons.mpr ⟨
  (gs_iload_n dX11_judge_50 rfl), List.forall_mem_cons.mpr ⟨
  (gs_if_lt dX11_judge_51 rfl), List.forall_mem_cons.mpr ⟨
  (gs_iload_n dX11_judge_54 rfl), List.forall_mem_cons.mpr ⟨
  (gs_aload_n dX11_judge_55 rfl), List.forall_mem_cons.mpr ⟨
  (gs_gf (ref := "GriefCranes$Tape") dX11_judge_56 (gx_mem 190 (by decide +kernel) (by decide +kernel)) (Or.inl rfl) gf_8_1), fun _ h => absurd h List.not_mem_nil⟩⟩⟩⟩⟩⟩⟩⟩⟩⟩⟩⟩⟩⟩⟩⟩⟩⟩⟩⟩⟩⟩⟩⟩⟩⟩⟩⟩⟩⟩⟩⟩
set_option maxRecDepth 20000 in
theorem kt_X11_judge_1 (g : gx_T) : ∀ q ∈ k_X11_judge_1, gx_E g gc_md RX11 cX11_judge 5 (some .int) "judge" q.1 q.2 := List.forall_mem_cons.mpr ⟨(gs_iload dX11_judge_59), List.forall_mem_cons.mpr ⟨
  (gs_isub dX11_judge_61), List.forall_mem_cons.mpr ⟨
  (gs_icmp_lt dX11_judge_62 rfl), List.forall_mem_cons.mpr ⟨
  (gs_bipush dX11_judge_65 rfl), List.forall_mem_cons.mpr ⟨
  (gs_iload dX11_judge_67), List.forall_mem_cons.mpr ⟨
  (gs_iadd dX11_judge_69), List.forall_mem_cons.mpr ⟨
  (gs_ri dX11_judge_70), List.forall_mem_cons.mpr ⟨
  (gs_aload_n dX11_judge_71 rfl), List.forall_mem_cons.mpr ⟨
  (gs_gf (ref := "GriefCranes$Tape") dX11_judge_72 (gx_mem 192 (by decide +kernel) (by decide +kernel)) (Or.inl rfl) gf_8_2), List.forall_mem_cons.mpr ⟨
  (gs_iload_n dX11_judge_75 rfl), List.forall_mem_cons.mpr ⟨
  (gs_iload dX11_judge_76), List.forall_mem_cons.mpr ⟨
  (gs_iadd dX11_judge_78), List.forall_mem_cons.mpr ⟨
  (gs_laload dX11_judge_79), List.forall_mem_cons.mpr ⟨
  (gs_aload_n dX11_judge_80 rfl), List.forall_mem_cons.mpr ⟨
  (gs_gf (ref := "GriefCranes") dX11_judge_81 (gx_mem 371 (by decide +kernel) (by decide +kernel)) (Or.inl rfl) gf_11_0), List.forall_mem_cons.mpr ⟨
  (gs_gf (ref := "GriefCranes$Yard") dX11_judge_84 (gx_mem 328 (by decide +kernel) (by decide +kernel)) (Or.inl rfl) gf_10_10), List.forall_mem_cons.mpr ⟨
  (gs_iload dX11_judge_87), List.forall_mem_cons.mpr ⟨
  (gs_iaload dX11_judge_89), List.forall_mem_cons.mpr ⟨
  (gs_i2l dX11_judge_90), List.forall_mem_cons.mpr ⟨
  (gs_lcmp dX11_judge_91), List.forall_mem_cons.mpr ⟨
  (gs_if_eq dX11_judge_92 rfl), List.forall_mem_cons.mpr ⟨
  (gs_iload dX11_judge_95), List.forall_mem_cons.mpr ⟨
  (gs_ri dX11_judge_97), List.forall_mem_cons.mpr ⟨
  (gs_iinc dX11_judge_98), List.forall_mem_cons.mpr ⟨
  (gs_goto dX11_judge_101 rfl), List.forall_mem_cons.mpr ⟨
  (gs_bipush dX11_judge_104 rfl), List.forall_mem_cons.mpr ⟨
  (gs_ri dX11_judge_106), fun _ h => absurd h List.not_mem_nil⟩⟩⟩⟩⟩⟩⟩⟩⟩⟩⟩⟩⟩⟩⟩⟩⟩⟩⟩⟩⟩⟩⟩⟩⟩⟩⟩
theorem kt_X11_judge (g : gx_T) : ∀ q ∈ k_X11_judge, gx_E g gc_md RX11 cX11_judge 5 (some .int) "judge" q.1 q.2 := List.forall_mem_append.mpr ⟨kt_X11_judge_0 g, kt_X11_judge_1 g⟩
set_option maxRecDepth 20000 in
theorem dX11_image_0 : decode cX11_image 0 = .ok (.aload_n 0, 1) := by decide +kernel
set_option maxRecDepth 20000 in
theorem dX11_image_1 : decode cX11_image 1 = .ok (.getfield 105, 3) := by decide +kernel
set_option maxRecDepth 20000 in
theorem dX11_image_4 : decode cX11_image 4 = .ok (.aload_n 0, 1) := by decide +kernel
set_option maxRecDepth 20000 in
theorem dX11_image_5 : decode cX11_image 5 = .ok (.getfield 98, 3) := by decide +kernel
set_option maxRecDepth 20000 in
theorem dX11_image_8 : decode cX11_image 8 = .ok (.invokevirtual 167, 3) := by decide +kernel
set_option maxRecDepth 20000 in
theorem dX11_image_11 : decode cX11_image 11 = .ok (.aload_n 0, 1) := by decide +kernel
set_option maxRecDepth 20000 in
theorem dX11_image_12 : decode cX11_image 12 = .ok (.getfield 20, 3) := by decide +kernel
set_option maxRecDepth 20000 in
theorem dX11_image_15 : decode cX11_image 15 = .ok (.aload_n 0, 1) := by decide +kernel
set_option maxRecDepth 20000 in
theorem dX11_image_16 : decode cX11_image 16 = .ok (.getfield 16, 3) := by decide +kernel
set_option maxRecDepth 20000 in
theorem dX11_image_19 : decode cX11_image 19 = .ok (.invokevirtual 260, 3) := by decide +kernel
set_option maxRecDepth 20000 in
theorem dX11_image_22 : decode cX11_image 22 = .ok (.aload_n 0, 1) := by decide +kernel
set_option maxRecDepth 20000 in
theorem dX11_image_23 : decode cX11_image 23 = .ok (.getfield 26, 3) := by decide +kernel
set_option maxRecDepth 20000 in
theorem dX11_image_26 : decode cX11_image 26 = .ok (.aload_n 0, 1) := by decide +kernel
set_option maxRecDepth 20000 in
theorem dX11_image_27 : decode cX11_image 27 = .ok (.getfield 23, 3) := by decide +kernel
set_option maxRecDepth 20000 in
theorem dX11_image_30 : decode cX11_image 30 = .ok (.invokevirtual 260, 3) := by decide +kernel
set_option maxRecDepth 20000 in
theorem dX11_image_33 : decode cX11_image 33 = .ok (.aload_n 0, 1) := by decide +kernel
set_option maxRecDepth 20000 in
theorem dX11_image_34 : decode cX11_image 34 = .ok (.getfield 32, 3) := by decide +kernel
set_option maxRecDepth 20000 in
theorem dX11_image_37 : decode cX11_image 37 = .ok (.aload_n 0, 1) := by decide +kernel
set_option maxRecDepth 20000 in
theorem dX11_image_38 : decode cX11_image 38 = .ok (.getfield 29, 3) := by decide +kernel
set_option maxRecDepth 20000 in
theorem dX11_image_41 : decode cX11_image 41 = .ok (.invokevirtual 260, 3) := by decide +kernel
set_option maxRecDepth 20000 in
theorem dX11_image_44 : decode cX11_image 44 = .ok (.aload_n 0, 1) := by decide +kernel
set_option maxRecDepth 20000 in
theorem dX11_image_45 : decode cX11_image 45 = .ok (.iconst 1, 1) := by decide +kernel
set_option maxRecDepth 20000 in
theorem dX11_image_46 : decode cX11_image 46 = .ok (.putfield 35, 3) := by decide +kernel
set_option maxRecDepth 20000 in
theorem dX11_image_49 : decode cX11_image 49 = .ok (.aload_n 0, 1) := by decide +kernel
set_option maxRecDepth 20000 in
theorem dX11_image_50 : decode cX11_image 50 = .ok (.getfield 98, 3) := by decide +kernel
set_option maxRecDepth 20000 in
theorem dX11_image_53 : decode cX11_image 53 = .ok (.getfield 112, 3) := by decide +kernel
set_option maxRecDepth 20000 in
theorem dX11_image_56 : decode cX11_image 56 = .ok (.ireturn, 1) := by decide +kernel
set_option maxRecDepth 20000 in
theorem kt_X11_image_0 (g : gx_T) : ∀ q ∈ k_X11_image_0, gx_E g gc_md RX11 cX11_image 1 (some .int) "image" q.1 q.2 := List.forall_mem_cons.mpr ⟨(gs_aload_n dX11_image_0 rfl), List.forall_mem_cons.mpr ⟨
  (gs_gf (ref := "GriefCranes") dX11_image_1 (gx_mem 373 (by decide +kernel) (by decide +kernel)) (Or.inl rfl) gf_11_2), List.forall_mem_cons.mpr ⟨
  (gs_aload_n dX11_image_4 rfl), List.forall_mem_cons.mpr ⟨
  (gs_gf (ref := "GriefCranes") dX11_image_5 (gx_mem 371 (by decide +kernel) (by decide +kernel)) (Or.inl rfl) gf_11_0), List.forall_mem_cons.mpr ⟨
  (gs_cv dX11_image_8 (fun q hq => by
      simp only [List.mem_cons, List.not_mem_nil, or_false] at hq
      subst hq
      exact Or.inl ⟨_, rfl, by decide, by decide +kernel, by decide +kernel, List.forall_mem_cons.mpr ⟨gx_mem 510 (by decide +kernel) (by decide +kernel), List.forall_mem_cons.mpr ⟨gx_mem 511 (by decide +kernel) (by decide +kernel), List.forall_mem_cons.mpr ⟨gx_mem 512 (by decide +kernel) (by decide +kernel), List.forall_mem_cons.mpr ⟨gx_mem 95 (by decide +kernel) (by decide +kernel), List.forall_mem_cons.mpr ⟨cw_513, fun _ h => absurd h List.not_mem_nil⟩⟩⟩⟩⟩⟩)), List.forall_mem_cons.mpr ⟨
  (gs_aload_n dX11_image_11 rfl), List.forall_mem_cons.mpr ⟨
  (gs_gf (ref := "GriefCranes") dX11_image_12 (gx_mem 375 (by decide +kernel) (by decide +kernel)) (Or.inl rfl) gf_11_4), List.forall_mem_cons.mpr ⟨
  (gs_aload_n dX11_image_15 rfl), List.forall_mem_cons.mpr ⟨
  (gs_gf (ref := "GriefCranes") dX11_image_16 (gx_mem 374 (by decide +kernel) (by decide +kernel)) (Or.inl rfl) gf_11_3), List.forall_mem_cons.mpr ⟨
  (gs_cv dX11_image_19 (fun q hq => by
      simp only [List.mem_cons, List.not_mem_nil, or_false] at hq
      subst hq
      exact Or.inl ⟨_, rfl, by decide, by decide +kernel, by decide +kernel, List.forall_mem_cons.mpr ⟨gx_mem 834 (by decide +kernel) (by decide +kernel), List.forall_mem_cons.mpr ⟨gx_mem 835 (by decide +kernel) (by decide +kernel), List.forall_mem_cons.mpr ⟨gx_mem 836 (by decide +kernel) (by decide +kernel), List.forall_mem_cons.mpr ⟨gx_mem 85 (by decide +kernel) (by decide +kernel), List.forall_mem_cons.mpr ⟨cw_837, fun _ h => absurd h List.not_mem_nil⟩⟩⟩⟩⟩⟩)), List.forall_mem_cons.mpr ⟨
  (gs_aload_n dX11_image_22 rfl), List.forall_mem_cons.mpr ⟨
  (gs_gf (ref := "GriefCranes") dX11_image_23 (gx_mem 377 (by decide +kernel) (by decide +kernel)) (Or.inl rfl) gf_11_6), List.forall_mem_cons.mpr ⟨
  (gs_aload_n dX11_image_26 rfl), List.forall_mem_cons.mpr ⟨
  (gs_gf (ref := "GriefCranes") dX11_image_27 (gx_mem 376 (by decide +kernel) (by decide +kernel)) (Or.inl rfl) gf_11_5), List.forall_mem_cons.mpr ⟨
  (gs_cv dX11_image_30 (fun q hq => by
      simp only [List.mem_cons, List.not_mem_nil, or_false] at hq
      subst hq
      exact Or.inl ⟨_, rfl, by decide, by decide +kernel, by decide +kernel, List.forall_mem_cons.mpr ⟨gx_mem 834 (by decide +kernel) (by decide +kernel), List.forall_mem_cons.mpr ⟨gx_mem 835 (by decide +kernel) (by decide +kernel), List.forall_mem_cons.mpr ⟨gx_mem 836 (by decide +kernel) (by decide +kernel), List.forall_mem_cons.mpr ⟨gx_mem 85 (by decide +kernel) (by decide +kernel), List.forall_mem_cons.mpr ⟨cw_837, fun _ h => absurd h List.not_mem_nil⟩⟩⟩⟩⟩⟩)), List.forall_mem_cons.mpr ⟨
  (gs_aload_n dX11_image_33 rfl), List.forall_mem_cons.mpr ⟨
  (gs_gf (ref := "GriefCranes") dX11_image_34 (gx_mem 379 (by decide +kernel) (by decide +kernel)) (Or.inl rfl) gf_11_8), List.forall_mem_cons.mpr ⟨
  (gs_aload_n dX11_image_37 rfl), List.forall_mem_cons.mpr ⟨
  (gs_gf (ref := "GriefCranes") dX11_image_38 (gx_mem 378 (by decide +kernel) (by decide +kernel)) (Or.inl rfl) gf_11_7), List.forall_mem_cons.mpr ⟨
  (gs_cv dX11_image_41 (fun q hq => by
      simp only [List.mem_cons, List.not_mem_nil, or_false] at hq
      subst hq
      exact Or.inl ⟨_, rfl, by decide, by decide +kernel, by decide +kernel, List.forall_mem_cons.mpr ⟨gx_mem 834 (by decide +kernel) (by decide +kernel), List.forall_mem_cons.mpr ⟨gx_mem 835 (by decide +kernel) (by decide +kernel), List.forall_mem_cons.mpr ⟨gx_mem 836 (by decide +kernel) (by decide +kernel), List.forall_mem_cons.mpr ⟨gx_mem 85 (by decide +kernel) (by decide +kernel), List.forall_mem_cons.mpr ⟨cw_837, fun _ h => absurd h List.not_mem_nil⟩⟩⟩⟩⟩⟩)), List.forall_mem_cons.mpr ⟨
  (gs_aload_n dX11_image_44 rfl), List.forall_mem_cons.mpr ⟨
  (gs_iconst dX11_image_45 rfl), List.forall_mem_cons.mpr ⟨
  (gs_pf (ref := "GriefCranes") dX11_image_46 (gx_mem 380 (by decide +kernel) (by decide +kernel)) (Or.inl rfl) gf_11_9 (by decide +kernel)), List.forall_mem_cons.mpr ⟨
  (gs_aload_n dX11_image_49 rfl), List.forall_mem_cons.mpr ⟨
  (gs_gf (ref := "GriefCranes") dX11_image_50 (gx_mem 371 (by decide +kernel) (by decide +kernel)) (Or.inl rfl) gf_11_0), List.forall_mem_cons.mpr ⟨
  (gs_gf (ref := "GriefCranes$Yard") dX11_image_53 (gx_mem 311 (by decide +kernel) (by decide +kernel)) (Or.inl rfl) gf_10_4), List.forall_mem_cons.mpr ⟨
  (gs_ri dX11_image_56), fun _ h => absurd h List.not_mem_nil⟩⟩⟩⟩⟩⟩⟩⟩⟩⟩⟩⟩⟩⟩⟩⟩⟩⟩⟩⟩⟩⟩⟩⟩⟩⟩⟩
theorem kt_X11_image (g : gx_T) : ∀ q ∈ k_X11_image, gx_E g gc_md RX11 cX11_image 1 (some .int) "image" q.1 q.2 := kt_X11_image_0 g
set_option maxRecDepth 20000 in
theorem dX11_undo_0 : decode cX11_undo 0 = .ok (.aload_n 0, 1) := by decide +kernel
set_option maxRecDepth 20000 in
theorem dX11_undo_1 : decode cX11_undo 1 = .ok (.getfield 35, 3) := by decide +kernel
set_option maxRecDepth 20000 in
theorem dX11_undo_4 : decode cX11_undo 4 = .ok (.ifCond .ne 6, 3) := by decide +kernel
set_option maxRecDepth 20000 in
theorem dX11_undo_7 : decode cX11_undo 7 = .ok (.bipush (-3), 2) := by decide +kernel
set_option maxRecDepth 20000 in
theorem dX11_undo_9 : decode cX11_undo 9 = .ok (.ireturn, 1) := by decide +kernel
set_option maxRecDepth 20000 in
theorem dX11_undo_10 : decode cX11_undo 10 = .ok (.aload_n 0, 1) := by decide +kernel
set_option maxRecDepth 20000 in
theorem dX11_undo_11 : decode cX11_undo 11 = .ok (.getfield 98, 3) := by decide +kernel
set_option maxRecDepth 20000 in
theorem dX11_undo_14 : decode cX11_undo 14 = .ok (.aload_n 0, 1) := by decide +kernel
set_option maxRecDepth 20000 in
theorem dX11_undo_15 : decode cX11_undo 15 = .ok (.getfield 105, 3) := by decide +kernel
set_option maxRecDepth 20000 in
theorem dX11_undo_18 : decode cX11_undo 18 = .ok (.invokevirtual 167, 3) := by decide +kernel
set_option maxRecDepth 20000 in
theorem dX11_undo_21 : decode cX11_undo 21 = .ok (.aload_n 0, 1) := by decide +kernel
set_option maxRecDepth 20000 in
theorem dX11_undo_22 : decode cX11_undo 22 = .ok (.getfield 16, 3) := by decide +kernel
set_option maxRecDepth 20000 in
theorem dX11_undo_25 : decode cX11_undo 25 = .ok (.aload_n 0, 1) := by decide +kernel
set_option maxRecDepth 20000 in
theorem dX11_undo_26 : decode cX11_undo 26 = .ok (.getfield 20, 3) := by decide +kernel
set_option maxRecDepth 20000 in
theorem dX11_undo_29 : decode cX11_undo 29 = .ok (.invokevirtual 260, 3) := by decide +kernel
set_option maxRecDepth 20000 in
theorem dX11_undo_32 : decode cX11_undo 32 = .ok (.aload_n 0, 1) := by decide +kernel
set_option maxRecDepth 20000 in
theorem dX11_undo_33 : decode cX11_undo 33 = .ok (.getfield 23, 3) := by decide +kernel
set_option maxRecDepth 20000 in
theorem dX11_undo_36 : decode cX11_undo 36 = .ok (.aload_n 0, 1) := by decide +kernel
set_option maxRecDepth 20000 in
theorem dX11_undo_37 : decode cX11_undo 37 = .ok (.getfield 26, 3) := by decide +kernel
set_option maxRecDepth 20000 in
theorem dX11_undo_40 : decode cX11_undo 40 = .ok (.invokevirtual 260, 3) := by decide +kernel
set_option maxRecDepth 20000 in
theorem dX11_undo_43 : decode cX11_undo 43 = .ok (.aload_n 0, 1) := by decide +kernel
set_option maxRecDepth 20000 in
theorem dX11_undo_44 : decode cX11_undo 44 = .ok (.getfield 29, 3) := by decide +kernel
set_option maxRecDepth 20000 in
theorem dX11_undo_47 : decode cX11_undo 47 = .ok (.aload_n 0, 1) := by decide +kernel
set_option maxRecDepth 20000 in
theorem dX11_undo_48 : decode cX11_undo 48 = .ok (.getfield 32, 3) := by decide +kernel
set_option maxRecDepth 20000 in
theorem dX11_undo_51 : decode cX11_undo 51 = .ok (.invokevirtual 260, 3) := by decide +kernel
set_option maxRecDepth 20000 in
theorem dX11_undo_54 : decode cX11_undo 54 = .ok (.aload_n 0, 1) := by decide +kernel
set_option maxRecDepth 20000 in
theorem dX11_undo_55 : decode cX11_undo 55 = .ok (.getfield 98, 3) := by decide +kernel
set_option maxRecDepth 20000 in
theorem dX11_undo_58 : decode cX11_undo 58 = .ok (.getfield 112, 3) := by decide +kernel
set_option maxRecDepth 20000 in
theorem dX11_undo_61 : decode cX11_undo 61 = .ok (.ireturn, 1) := by decide +kernel
set_option maxRecDepth 20000 in
theorem kt_X11_undo_0 (g : gx_T) : ∀ q ∈ k_X11_undo_0, gx_E g gc_md RX11 cX11_undo 1 (some .int) "undo" q.1 q.2 := List.forall_mem_cons.mpr ⟨(gs_aload_n dX11_undo_0 rfl), List.forall_mem_cons.mpr ⟨
  (gs_gf (ref := "GriefCranes") dX11_undo_1 (gx_mem 380 (by decide +kernel) (by decide +kernel)) (Or.inl rfl) gf_11_9), List.forall_mem_cons.mpr ⟨
  (gs_if_ne dX11_undo_4 rfl), List.forall_mem_cons.mpr ⟨
  (gs_bipush dX11_undo_7 rfl), List.forall_mem_cons.mpr ⟨
  (gs_ri dX11_undo_9), List.forall_mem_cons.mpr ⟨
  (gs_aload_n dX11_undo_10 rfl), List.forall_mem_cons.mpr ⟨
  (gs_gf (ref := "GriefCranes") dX11_undo_11 (gx_mem 371 (by decide +kernel) (by decide +kernel)) (Or.inl rfl) gf_11_0), List.forall_mem_cons.mpr ⟨
  (gs_aload_n dX11_undo_14 rfl), List.forall_mem_cons.mpr ⟨
  (gs_gf (ref := "GriefCranes") dX11_undo_15 (gx_mem 373 (by decide +kernel) (by decide +kernel)) (Or.inl rfl) gf_11_2), List.forall_mem_cons.mpr ⟨
  (gs_cv dX11_undo_18 (fun q hq => by
      simp only [List.mem_cons, List.not_mem_nil, or_false] at hq
      subst hq
      exact Or.inl ⟨_, rfl, by decide, by decide +kernel, by decide +kernel, List.forall_mem_cons.mpr ⟨gx_mem 510 (by decide +kernel) (by decide +kernel), List.forall_mem_cons.mpr ⟨gx_mem 511 (by decide +kernel) (by decide +kernel), List.forall_mem_cons.mpr ⟨gx_mem 512 (by decide +kernel) (by decide +kernel), List.forall_mem_cons.mpr ⟨gx_mem 95 (by decide +kernel) (by decide +kernel), List.forall_mem_cons.mpr ⟨cw_513, fun _ h => absurd h List.not_mem_nil⟩⟩⟩⟩⟩⟩)), List.forall_mem_cons.mpr ⟨
  (gs_aload_n dX11_undo_21 rfl), List.forall_mem_cons.mpr ⟨
  (gs_gf (ref := "GriefCranes") dX11_undo_22 (gx_mem 374 (by decide +kernel) (by decide +kernel)) (Or.inl rfl) gf_11_3), List.forall_mem_cons.mpr ⟨
  (gs_aload_n dX11_undo_25 rfl), List.forall_mem_cons.mpr ⟨
  (gs_gf (ref := "GriefCranes") dX11_undo_26 (gx_mem 375 (by decide +kernel) (by decide +kernel)) (Or.inl rfl) gf_11_4), List.forall_mem_cons.mpr ⟨
  (gs_cv dX11_undo_29 (fun q hq => by
      simp only [List.mem_cons, List.not_mem_nil, or_false] at hq
      subst hq
      exact Or.inl ⟨_, rfl, by decide, by decide +kernel, by decide +kernel, List.forall_mem_cons.mpr ⟨gx_mem 834 (by decide +kernel) (by decide +kernel), List.forall_mem_cons.mpr ⟨gx_mem 835 (by decide +kernel) (by decide +kernel), List.forall_mem_cons.mpr ⟨gx_mem 836 (by decide +kernel) (by decide +kernel), List.forall_mem_cons.mpr ⟨gx_mem 85 (by decide +kernel) (by decide +kernel), List.forall_mem_cons.mpr ⟨cw_837, fun _ h => absurd h List.not_mem_nil⟩⟩⟩⟩⟩⟩)), List.forall_mem_cons.mpr ⟨
  (gs_aload_n dX11_undo_32 rfl), List.forall_mem_cons.mpr ⟨
  (gs_gf (ref := "GriefCranes") dX11_undo_33 (gx_mem 376 (by decide +kernel) (by decide +kernel)) (Or.inl rfl) gf_11_5), List.forall_mem_cons.mpr ⟨
  (gs_aload_n dX11_undo_36 rfl), List.forall_mem_cons.mpr ⟨
  (gs_gf (ref := "GriefCranes") dX11_undo_37 (gx_mem 377 (by decide +kernel) (by decide +kernel)) (Or.inl rfl) gf_11_6), List.forall_mem_cons.mpr ⟨
  (gs_cv dX11_undo_40 (fun q hq => by
      simp only [List.mem_cons, List.not_mem_nil, or_false] at hq
      subst hq
      exact Or.inl ⟨_, rfl, by decide, by decide +kernel, by decide +kernel, List.forall_mem_cons.mpr ⟨gx_mem 834 (by decide +kernel) (by decide +kernel), List.forall_mem_cons.mpr ⟨gx_mem 835 (by decide +kernel) (by decide +kernel), List.forall_mem_cons.mpr ⟨gx_mem 836 (by decide +kernel) (by decide +kernel), List.forall_mem_cons.mpr ⟨gx_mem 85 (by decide +kernel) (by decide +kernel), List.forall_mem_cons.mpr ⟨cw_837, fun _ h => absurd h List.not_mem_nil⟩⟩⟩⟩⟩⟩)), List.forall_mem_cons.mpr ⟨
  (gs_aload_n dX11_undo_43 rfl), List.forall_mem_cons.mpr ⟨
  (gs_gf (ref := "GriefCranes") dX11_undo_44 (gx_mem 378 (by decide +kernel) (by decide +kernel)) (Or.inl rfl) gf_11_7), List.forall_mem_cons.mpr ⟨
  (gs_aload_n dX11_undo_47 rfl), List.forall_mem_cons.mpr ⟨
  (gs_gf (ref := "GriefCranes") dX11_undo_48 (gx_mem 379 (by decide +kernel) (by decide +kernel)) (Or.inl rfl) gf_11_8), List.forall_mem_cons.mpr ⟨
  (gs_cv dX11_undo_51 (fun q hq => by
      simp only [List.mem_cons, List.not_mem_nil, or_false] at hq
      subst hq
      exact Or.inl ⟨_, rfl, by decide, by decide +kernel, by decide +kernel, List.forall_mem_cons.mpr ⟨gx_mem 834 (by decide +kernel) (by decide +kernel), List.forall_mem_cons.mpr ⟨gx_mem 835 (by decide +kernel) (by decide +kernel), List.forall_mem_cons.mpr ⟨gx_mem 836 (by decide +kernel) (by decide +kernel), List.forall_mem_cons.mpr ⟨gx_mem 85 (by decide +kernel) (by decide +kernel), List.forall_mem_cons.mpr ⟨cw_837, fun _ h => absurd h List.not_mem_nil⟩⟩⟩⟩⟩⟩)), List.forall_mem_cons.mpr ⟨
  (gs_aload_n dX11_undo_54 rfl), List.forall_mem_cons.mpr ⟨
  (gs_gf (ref := "GriefCranes") dX11_undo_55 (gx_mem 371 (by decide +kernel) (by decide +kernel)) (Or.inl rfl) gf_11_0), List.forall_mem_cons.mpr ⟨
  (gs_gf (ref := "GriefCranes$Yard") dX11_undo_58 (gx_mem 311 (by decide +kernel) (by decide +kernel)) (Or.inl rfl) gf_10_4), List.forall_mem_cons.mpr ⟨
  (gs_ri dX11_undo_61), fun _ h => absurd h List.not_mem_nil⟩⟩⟩⟩⟩⟩⟩⟩⟩⟩⟩⟩⟩⟩⟩⟩⟩⟩⟩⟩⟩⟩⟩⟩⟩⟩⟩⟩⟩
theorem kt_X11_undo (g : gx_T) : ∀ q ∈ k_X11_undo, gx_E g gc_md RX11 cX11_undo 1 (some .int) "undo" q.1 q.2 := kt_X11_undo_0 g
